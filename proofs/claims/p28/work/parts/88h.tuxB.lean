/-! an ERRAND, days by draws: exactly -/
/-- the direction faced t HOURS on -/
def ef (f : Int → Int) (h : Int) : Int → Int := fun t => (f (46 + h) + cs_ang f t.toNat) % 12