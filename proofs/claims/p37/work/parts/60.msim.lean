/-! MODEL's face: simulate. -/
section MQ3
variable {l : Launch} {rf sz : Int} {S : St} {ac : Int} {B I : Int → Int} {m : Int} {Fi Co Br Wt mk gy : Int → Int} {S2 : St} {tx di ke ik ea : Int → Int} {sd rt lf wy sp ou : Int}
/-- the plate after k turns from seed x -/
def siK (S : St) (x : Int) : Nat → St
  | 0 => S
  | k + 1 => tnF (siK S x k) (sh33 (lcgK x (k + 1)))
theorem SV_siK (h : SV S) (x : Int) : ∀ k : Nat, SV (siK S x k)
  | 0 => h
  | k + 1 => SV_tnF (SV_siK h x k)
noncomputable def aSim (P : St) : Int := 10000 * mS P + inkF (sC P) (sR P) (bS P) (sH P) (sI P)
end MQ3
