/-! MODEL: holes, mothers, what lies in it. -/
section MD8
variable {l : Launch} {rf sz c r : Int} {G T : Int → Int} {le : Int} {Hh : Int → Int} {li ac : Int} {B I : Int → Int} {m : Int} {Fi Co Br Wt mk gy : Int → Int} {sd rt lf wy sp ou : Int} {b : Int → Int}
/-- is that place of the island L -/
def inI (c r : Int) (b : Int → Int) (L x y : Int) : Prop := inP c r x y ∧ lw c r b (y * c + x) = L
end MD8
