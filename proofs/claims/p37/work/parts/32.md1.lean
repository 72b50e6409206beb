/-! MODEL: its cells, the flood, the marks. -/
section MD3
variable {l : Launch} {rf sz c r : Int} {G T : Int → Int} {le : Int} {Hh : Int → Int} {li ac : Int} {B I : Int → Int} {m : Int} {Fi Co Br Wt mk gy : Int → Int} {sd rt lf wy sp ou : Int} {b : Int → Int}
/-- the Model and the rows that it works with; the state's row that is worked on (now, or trial) lies at 1; 10 and on: rows that are only named -/
abbrev mdM (rf sz c r : Int) (G T : Int → Int) (n le : Int) (Hh : Int → Int) (li ac : Int) (B I : Int → Int) (m : Int) (Fi Co Br Wt mk gy : Int → Int) (sd rt lf wy sp ou : Int) : List va_E :=
  [ob 7 [iv rf, .ref 12, iv sz, .ref 10, .ref 11, .ref 13, iv ac, .ref 14, .ref 15, .ref 2, .ref 3, iv m, .ref 4, .ref 5, .ref 6, .ref 7, .ref 8, .ref 9, .ref 16, iv sd, iv rt, iv lf, iv wy, iv sp, iv ou], ia 160 (rowOf c r G T n le Hh li), ia 144 B, ia 144 I, ia 144 Fi, ia 144 Co, ia 144 Br, ia 144 Wt, ia 144 mk, ia 144 gy]
end MD3
