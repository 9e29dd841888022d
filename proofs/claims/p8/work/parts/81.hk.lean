/-- what set throws: 0 nothing, 2 broken, 3 a limit -/
def tk_cd (u : Int) : Int32 := if u = -1 then 3 else if u < -1 then 2 else 0
