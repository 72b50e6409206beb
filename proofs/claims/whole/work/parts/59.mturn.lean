/-! MODEL: a turn of simulate. -/
section MQ2
variable {l : Launch} {rf sz : Int} {S : St} {ac : Int} {B I : Int → Int} {m : Int} {Fi Co Br Wt mk gy : Int → Int} {S2 : St} {tx di ke ik ea : Int → Int} {sd rt lf wy sp ou : Int}
/-- what a turn with n does -/
def tnF (S : St) (n : Int) : St :=
  if n % 8 ≤ 2 then stP S (n / 8 % 12) (n / 8 / 12 % 12) (n / 8 / 144 % 100)
  else if n % 8 = 3 then stB S (n / 8 % 12) (n / 8 % 12 + n / 8 / 144 % 4) (n / 8 / 12 % 12) (n / 8 / 12 % 12 + n / 8 / 576 % 4) (n / 8 / 2304 % 100)
  else if n % 8 = 4 then stT S (1 + n / 8 % 99) (if n / 8 / 128 % 2 = 0 then 1 else 0)
  else if n % 8 = 5 then (if n / 8 / 32 % 3 = 0 then stL S (1 + n / 8 % 30) else gI S)
  else if n % 8 = 6 then gU S else gQ S (1 + n / 8 % 49)
theorem tn_p {n : Int} (h : n % 8 ≤ 2) : tnF S n = stP S (n / 8 % 12) (n / 8 / 12 % 12) (n / 8 / 144 % 100) := if_pos h
theorem tn_3 {n : Int} (h : n % 8 = 3) : tnF S n = stB S (n / 8 % 12) (n / 8 % 12 + n / 8 / 144 % 4) (n / 8 / 12 % 12) (n / 8 / 12 % 12 + n / 8 / 576 % 4) (n / 8 / 2304 % 100) := by
  unfold tnF; rw [if_neg (by omega), if_pos h]
theorem tn_4 {n : Int} (h : n % 8 = 4) : tnF S n = stT S (1 + n / 8 % 99) (if n / 8 / 128 % 2 = 0 then 1 else 0) := by
  unfold tnF; rw [if_neg (by omega), if_neg (by omega), if_pos h]
theorem tn_5 {n : Int} (h : n % 8 = 5) : tnF S n = if n / 8 / 32 % 3 = 0 then stL S (1 + n / 8 % 30) else gI S := by
  unfold tnF; rw [if_neg (by omega), if_neg (by omega), if_neg (by omega), if_pos h]
theorem tn_6 {n : Int} (h : n % 8 = 6) : tnF S n = gU S := by
  unfold tnF; rw [if_neg (by omega), if_neg (by omega), if_neg (by omega), if_neg (by omega), if_pos h]
theorem tn_7 {n : Int} (h : n % 8 = 7) : tnF S n = gQ S (1 + n / 8 % 49) := by
  unfold tnF; rw [if_neg (by omega), if_neg (by omega), if_neg (by omega), if_neg (by omega), if_neg (by omega)]
theorem SV_tnF {n : Int} (h : SV S) : SV (tnF S n) := by
  unfold tnF
  repeat' split
  · exact SV_stP h
  · exact SV_stB h
  · exact SV_stT h
  · exact SV_stT h
  · exact SV_stL h
  · exact SV_gI h
  · exact SV_gU h
  · exact SV_gQ h (by omega)
theorem dX7_turn_0 : decode cX7_turn 0 = .ok (.iload_n 1, 1) := by decide +kernel
theorem dX7_turn_1 : decode cX7_turn 1 = .ok (.bipush 8, 2) := by decide +kernel
theorem dX7_turn_3 : decode cX7_turn 3 = .ok (.idiv, 1) := by decide +kernel
theorem dX7_turn_4 : decode cX7_turn 4 = .ok (.istore_n 2, 1) := by decide +kernel
theorem dX7_turn_5 : decode cX7_turn 5 = .ok (.iload_n 1, 1) := by decide +kernel
theorem dX7_turn_6 : decode cX7_turn 6 = .ok (.bipush 8, 2) := by decide +kernel
theorem dX7_turn_8 : decode cX7_turn 8 = .ok (.irem, 1) := by decide +kernel
theorem dX7_turn_9 : decode cX7_turn 9 = .ok (.tableswitch 186 0 6 #[43, 43, 43, 70, 111, 140, 174], 43) := by decide +kernel
theorem dX7_turn_52 : decode cX7_turn 52 = .ok (.aload_n 0, 1) := by decide +kernel
theorem dX7_turn_53 : decode cX7_turn 53 = .ok (.iload_n 2, 1) := by decide +kernel
theorem dX7_turn_54 : decode cX7_turn 54 = .ok (.bipush 12, 2) := by decide +kernel
theorem dX7_turn_56 : decode cX7_turn 56 = .ok (.irem, 1) := by decide +kernel
theorem dX7_turn_57 : decode cX7_turn 57 = .ok (.iload_n 2, 1) := by decide +kernel
theorem dX7_turn_58 : decode cX7_turn 58 = .ok (.bipush 12, 2) := by decide +kernel
theorem dX7_turn_60 : decode cX7_turn 60 = .ok (.idiv, 1) := by decide +kernel
theorem dX7_turn_61 : decode cX7_turn 61 = .ok (.bipush 12, 2) := by decide +kernel
theorem dX7_turn_63 : decode cX7_turn 63 = .ok (.irem, 1) := by decide +kernel
theorem dX7_turn_64 : decode cX7_turn 64 = .ok (.iload_n 2, 1) := by decide +kernel
theorem dX7_turn_65 : decode cX7_turn 65 = .ok (.sipush 144, 3) := by decide +kernel
theorem dX7_turn_68 : decode cX7_turn 68 = .ok (.idiv, 1) := by decide +kernel
theorem dX7_turn_69 : decode cX7_turn 69 = .ok (.bipush 100, 2) := by decide +kernel
theorem dX7_turn_71 : decode cX7_turn 71 = .ok (.irem, 1) := by decide +kernel
theorem dX7_turn_72 : decode cX7_turn 72 = .ok (.invokevirtual 328, 3) := by decide +kernel
theorem dX7_turn_75 : decode cX7_turn 75 = .ok (.pop, 1) := by decide +kernel
theorem dX7_turn_76 : decode cX7_turn 76 = .ok (.goto 134, 3) := by decide +kernel
theorem dX7_turn_79 : decode cX7_turn 79 = .ok (.aload_n 0, 1) := by decide +kernel
theorem dX7_turn_80 : decode cX7_turn 80 = .ok (.iload_n 2, 1) := by decide +kernel
theorem dX7_turn_81 : decode cX7_turn 81 = .ok (.bipush 12, 2) := by decide +kernel
theorem dX7_turn_83 : decode cX7_turn 83 = .ok (.irem, 1) := by decide +kernel
theorem dX7_turn_84 : decode cX7_turn 84 = .ok (.iload_n 2, 1) := by decide +kernel
theorem dX7_turn_85 : decode cX7_turn 85 = .ok (.bipush 12, 2) := by decide +kernel
theorem dX7_turn_87 : decode cX7_turn 87 = .ok (.idiv, 1) := by decide +kernel
theorem dX7_turn_88 : decode cX7_turn 88 = .ok (.bipush 12, 2) := by decide +kernel
theorem dX7_turn_90 : decode cX7_turn 90 = .ok (.irem, 1) := by decide +kernel
theorem dX7_turn_91 : decode cX7_turn 91 = .ok (.iload_n 2, 1) := by decide +kernel
theorem dX7_turn_92 : decode cX7_turn 92 = .ok (.sipush 2304, 3) := by decide +kernel
theorem dX7_turn_95 : decode cX7_turn 95 = .ok (.idiv, 1) := by decide +kernel
theorem dX7_turn_96 : decode cX7_turn 96 = .ok (.bipush 100, 2) := by decide +kernel
theorem dX7_turn_98 : decode cX7_turn 98 = .ok (.irem, 1) := by decide +kernel
theorem dX7_turn_99 : decode cX7_turn 99 = .ok (.iload_n 2, 1) := by decide +kernel
theorem dX7_turn_100 : decode cX7_turn 100 = .ok (.sipush 144, 3) := by decide +kernel
theorem dX7_turn_103 : decode cX7_turn 103 = .ok (.idiv, 1) := by decide +kernel
theorem dX7_turn_104 : decode cX7_turn 104 = .ok (.iconst 4, 1) := by decide +kernel
theorem dX7_turn_105 : decode cX7_turn 105 = .ok (.irem, 1) := by decide +kernel
theorem dX7_turn_106 : decode cX7_turn 106 = .ok (.iload_n 2, 1) := by decide +kernel
theorem dX7_turn_107 : decode cX7_turn 107 = .ok (.sipush 576, 3) := by decide +kernel
theorem dX7_turn_110 : decode cX7_turn 110 = .ok (.idiv, 1) := by decide +kernel
theorem dX7_turn_111 : decode cX7_turn 111 = .ok (.iconst 4, 1) := by decide +kernel
theorem dX7_turn_112 : decode cX7_turn 112 = .ok (.irem, 1) := by decide +kernel
theorem dX7_turn_113 : decode cX7_turn 113 = .ok (.invokevirtual 331, 3) := by decide +kernel
theorem dX7_turn_116 : decode cX7_turn 116 = .ok (.pop, 1) := by decide +kernel
theorem dX7_turn_117 : decode cX7_turn 117 = .ok (.goto 93, 3) := by decide +kernel
theorem dX7_turn_120 : decode cX7_turn 120 = .ok (.aload_n 0, 1) := by decide +kernel
theorem dX7_turn_121 : decode cX7_turn 121 = .ok (.iconst 1, 1) := by decide +kernel
theorem dX7_turn_122 : decode cX7_turn 122 = .ok (.iload_n 2, 1) := by decide +kernel
theorem dX7_turn_123 : decode cX7_turn 123 = .ok (.bipush 99, 2) := by decide +kernel
theorem dX7_turn_125 : decode cX7_turn 125 = .ok (.irem, 1) := by decide +kernel
theorem dX7_turn_126 : decode cX7_turn 126 = .ok (.iadd, 1) := by decide +kernel
theorem dX7_turn_127 : decode cX7_turn 127 = .ok (.iload_n 2, 1) := by decide +kernel
theorem dX7_turn_128 : decode cX7_turn 128 = .ok (.sipush 128, 3) := by decide +kernel
theorem dX7_turn_131 : decode cX7_turn 131 = .ok (.idiv, 1) := by decide +kernel
theorem dX7_turn_132 : decode cX7_turn 132 = .ok (.iconst 2, 1) := by decide +kernel
theorem dX7_turn_133 : decode cX7_turn 133 = .ok (.irem, 1) := by decide +kernel
theorem dX7_turn_134 : decode cX7_turn 134 = .ok (.ifCond .ne 7, 3) := by decide +kernel
theorem dX7_turn_137 : decode cX7_turn 137 = .ok (.iconst 1, 1) := by decide +kernel
theorem dX7_turn_138 : decode cX7_turn 138 = .ok (.goto 4, 3) := by decide +kernel
theorem dX7_turn_141 : decode cX7_turn 141 = .ok (.iconst 0, 1) := by decide +kernel
theorem dX7_turn_142 : decode cX7_turn 142 = .ok (.invokevirtual 335, 3) := by decide +kernel
theorem dX7_turn_145 : decode cX7_turn 145 = .ok (.pop, 1) := by decide +kernel
theorem dX7_turn_146 : decode cX7_turn 146 = .ok (.goto 64, 3) := by decide +kernel
theorem dX7_turn_149 : decode cX7_turn 149 = .ok (.iload_n 2, 1) := by decide +kernel
theorem dX7_turn_150 : decode cX7_turn 150 = .ok (.bipush 32, 2) := by decide +kernel
theorem dX7_turn_152 : decode cX7_turn 152 = .ok (.idiv, 1) := by decide +kernel
theorem dX7_turn_153 : decode cX7_turn 153 = .ok (.iconst 3, 1) := by decide +kernel
theorem dX7_turn_154 : decode cX7_turn 154 = .ok (.irem, 1) := by decide +kernel
theorem dX7_turn_155 : decode cX7_turn 155 = .ok (.ifCond .ne 17, 3) := by decide +kernel
theorem dX7_turn_158 : decode cX7_turn 158 = .ok (.aload_n 0, 1) := by decide +kernel
theorem dX7_turn_159 : decode cX7_turn 159 = .ok (.iconst 1, 1) := by decide +kernel
theorem dX7_turn_160 : decode cX7_turn 160 = .ok (.iload_n 2, 1) := by decide +kernel
theorem dX7_turn_161 : decode cX7_turn 161 = .ok (.bipush 30, 2) := by decide +kernel
theorem dX7_turn_163 : decode cX7_turn 163 = .ok (.irem, 1) := by decide +kernel
theorem dX7_turn_164 : decode cX7_turn 164 = .ok (.iadd, 1) := by decide +kernel
theorem dX7_turn_165 : decode cX7_turn 165 = .ok (.invokevirtual 339, 3) := by decide +kernel
theorem dX7_turn_168 : decode cX7_turn 168 = .ok (.pop, 1) := by decide +kernel
theorem dX7_turn_169 : decode cX7_turn 169 = .ok (.goto 41, 3) := by decide +kernel
theorem dX7_turn_172 : decode cX7_turn 172 = .ok (.aload_n 0, 1) := by decide +kernel
theorem dX7_turn_173 : decode cX7_turn 173 = .ok (.getfield 16, 3) := by decide +kernel
theorem dX7_turn_176 : decode cX7_turn 176 = .ok (.invokestatic 234, 3) := by decide +kernel
theorem dX7_turn_179 : decode cX7_turn 179 = .ok (.pop, 1) := by decide +kernel
theorem dX7_turn_180 : decode cX7_turn 180 = .ok (.goto 30, 3) := by decide +kernel
theorem dX7_turn_183 : decode cX7_turn 183 = .ok (.aload_n 0, 1) := by decide +kernel
theorem dX7_turn_184 : decode cX7_turn 184 = .ok (.aload_n 0, 1) := by decide +kernel
theorem dX7_turn_185 : decode cX7_turn 185 = .ok (.getfield 16, 3) := by decide +kernel
theorem dX7_turn_188 : decode cX7_turn 188 = .ok (.invokevirtual 231, 3) := by decide +kernel
theorem dX7_turn_191 : decode cX7_turn 191 = .ok (.pop, 1) := by decide +kernel
theorem dX7_turn_192 : decode cX7_turn 192 = .ok (.goto 18, 3) := by decide +kernel
theorem dX7_turn_195 : decode cX7_turn 195 = .ok (.aload_n 0, 1) := by decide +kernel
theorem dX7_turn_196 : decode cX7_turn 196 = .ok (.aload_n 0, 1) := by decide +kernel
theorem dX7_turn_197 : decode cX7_turn 197 = .ok (.getfield 16, 3) := by decide +kernel
theorem dX7_turn_200 : decode cX7_turn 200 = .ok (.iconst 1, 1) := by decide +kernel
theorem dX7_turn_201 : decode cX7_turn 201 = .ok (.iload_n 2, 1) := by decide +kernel
theorem dX7_turn_202 : decode cX7_turn 202 = .ok (.bipush 49, 2) := by decide +kernel
theorem dX7_turn_204 : decode cX7_turn 204 = .ok (.irem, 1) := by decide +kernel
theorem dX7_turn_205 : decode cX7_turn 205 = .ok (.iadd, 1) := by decide +kernel
theorem dX7_turn_206 : decode cX7_turn 206 = .ok (.invokevirtual 237, 3) := by decide +kernel
theorem dX7_turn_209 : decode cX7_turn 209 = .ok (.pop, 1) := by decide +kernel
theorem dX7_turn_210 : decode cX7_turn 210 = .ok (.return_, 1) := by decide +kernel
set_option maxRecDepth 100000 in
theorem c_mturn {n : Int} (hS : SV S2) (hn : 0 ≤ n ∧ n < 2147483648) : Ct l yX7_turn cX7_turn 3 none rmX7_turn [.ref 0, iv n] (mdW rf sz S ac B I m Fi Co Br Wt mk gy S2 tx di ke ik ea sd rt lf wy sp ou)
    (fun z M => z = none ∧ ∃ gy' : Int → Int, M = (mdW rf sz S ac B I m Fi Co Br Wt mk (gy') (tnF S2 n) tx di ke ik ea sd rt lf wy sp ou)) := by
  refine Ct.of miX7_turn (Nat.le_of_ble_eq_true rfl) ?_
  intro X hXl hN ok
  refine AW.cast (L2 := [some (.ref 0), some (iv n), none]) ?_ rfl rfl rfl
  have hd := hS.1
  have hq : 0 ≤ n / 8 ∧ n / 8 < 268435456 := by omega
  refine a_iload_n (pc := 0) ok dX7_turn_0 rfl ?_
  refine a_bipush (pc := 1) ok dX7_turn_1 (by decide) ?_
  refine a_idiv (pc := 3) ok dX7_turn_3 (by first | omega | (unfold rg; omega) | (simp only [rg] at *; omega) | exact bz_rg _ | grind [rg]) (by first | omega | (unfold rg; omega) | (simp only [rg] at *; omega) | exact bz_rg _ | grind [rg]) ?_
  refine a_istore_n (pc := 4) ok dX7_turn_4 rfl (by rw [hN]; decide) ?_
  refine a_iload_n (pc := 5) ok dX7_turn_5 rfl ?_
  refine a_bipush (pc := 6) ok dX7_turn_6 (by decide) ?_
  refine a_irem (pc := 8) ok dX7_turn_8 (by first | omega | (unfold rg; omega) | (simp only [rg] at *; omega) | exact bz_rg _ | grind [rg]) (by first | omega | (unfold rg; omega) | (simp only [rg] at *; omega) | exact bz_rg _ | grind [rg]) ?_
  refine a_tab (pc := 9) (dt := 195) ok [52, 52, 52, 79, 120, 149, 183] dX7_turn_9 (by decide) (by decide) (by decide) (by first | omega | (unfold rg; omega) | (simp only [rg] at *; omega) | exact bz_rg _ | grind [rg]) (fun j9 hj9 c9 => ?_) (fun c9 => ?_)
  · rcases (show j9 = 0 ∨ j9 = 1 ∨ j9 = 2 ∨ j9 = 3 ∨ j9 = 4 ∨ j9 = 5 ∨ j9 = 6 by simp only [List.length_cons, List.length_nil] at hj9; omega) with rfl | rfl | rfl | rfl | rfl | rfl | rfl
    · refine a_aload_n (pc := 52) ok dX7_turn_52 rfl ?_
      refine a_iload_n (pc := 53) ok dX7_turn_53 rfl ?_
      refine a_bipush (pc := 54) ok dX7_turn_54 (by decide) ?_
      refine a_irem (pc := 56) ok dX7_turn_56 (by first | omega | (unfold rg; omega) | (simp only [rg] at *; omega) | exact bz_rg _ | grind [rg]) (by first | omega | (unfold rg; omega) | (simp only [rg] at *; omega) | exact bz_rg _ | grind [rg]) ?_
      refine a_iload_n (pc := 57) ok dX7_turn_57 rfl ?_
      refine a_bipush (pc := 58) ok dX7_turn_58 (by decide) ?_
      refine a_idiv (pc := 60) ok dX7_turn_60 (by first | omega | (unfold rg; omega) | (simp only [rg] at *; omega) | exact bz_rg _ | grind [rg]) (by first | omega | (unfold rg; omega) | (simp only [rg] at *; omega) | exact bz_rg _ | grind [rg]) ?_
      refine a_bipush (pc := 61) ok dX7_turn_61 (by decide) ?_
      refine a_irem (pc := 63) ok dX7_turn_63 (by first | omega | (unfold rg; omega) | (simp only [rg] at *; omega) | exact bz_rg _ | grind [rg]) (by first | omega | (unfold rg; omega) | (simp only [rg] at *; omega) | exact bz_rg _ | grind [rg]) ?_
      refine a_iload_n (pc := 64) ok dX7_turn_64 rfl ?_
      refine a_sipush (pc := 65) ok dX7_turn_65 (by decide) ?_
      refine a_idiv (pc := 68) ok dX7_turn_68 (by first | omega | (unfold rg; omega) | (simp only [rg] at *; omega) | exact bz_rg _ | grind [rg]) (by first | omega | (unfold rg; omega) | (simp only [rg] at *; omega) | exact bz_rg _ | grind [rg]) ?_
      refine a_bipush (pc := 69) ok dX7_turn_69 (by decide) ?_
      refine a_irem (pc := 71) ok dX7_turn_71 (by first | omega | (unfold rg; omega) | (simp only [rg] at *; omega) | exact bz_rg _ | grind [rg]) (by first | omega | (unfold rg; omega) | (simp only [rg] at *; omega) | exact bz_rg _ | grind [rg]) ?_
      refine a_callVi (pc := 72) ok [0, 1, 2, 3, 4, 5, 6, 7, 8, 9, 10, 11, 12, 13, 14, 15] dX7_turn_72 mv7_328 miX7_paints (c_mpaints hS (by unfold rg; omega) (by unfold rg; omega) (by unfold rg; omega)) ⟨by decide, by decide, rfl, rfl, Nat.zero_le _, Nat.zero_le _⟩ rfl rfl (Nat.le_of_ble_eq_true rfl) rfl (by decide) rfl rfl rfl ?_
      refine a_pop (pc := 75) ok dX7_turn_75 rfl ?_
      refine a_goto (pc := 76) (tgt := 210) ok dX7_turn_76 (by decide) ?_
      exact a_vret (pc := 210) ok dX7_turn_210 (⟨rfl, gy, by rw [tn_p (S := S2) (n := n) (by omega)]; rfl⟩)
    · refine a_aload_n (pc := 52) ok dX7_turn_52 rfl ?_
      refine a_iload_n (pc := 53) ok dX7_turn_53 rfl ?_
      refine a_bipush (pc := 54) ok dX7_turn_54 (by decide) ?_
      refine a_irem (pc := 56) ok dX7_turn_56 (by first | omega | (unfold rg; omega) | (simp only [rg] at *; omega) | exact bz_rg _ | grind [rg]) (by first | omega | (unfold rg; omega) | (simp only [rg] at *; omega) | exact bz_rg _ | grind [rg]) ?_
      refine a_iload_n (pc := 57) ok dX7_turn_57 rfl ?_
      refine a_bipush (pc := 58) ok dX7_turn_58 (by decide) ?_
      refine a_idiv (pc := 60) ok dX7_turn_60 (by first | omega | (unfold rg; omega) | (simp only [rg] at *; omega) | exact bz_rg _ | grind [rg]) (by first | omega | (unfold rg; omega) | (simp only [rg] at *; omega) | exact bz_rg _ | grind [rg]) ?_
      refine a_bipush (pc := 61) ok dX7_turn_61 (by decide) ?_
      refine a_irem (pc := 63) ok dX7_turn_63 (by first | omega | (unfold rg; omega) | (simp only [rg] at *; omega) | exact bz_rg _ | grind [rg]) (by first | omega | (unfold rg; omega) | (simp only [rg] at *; omega) | exact bz_rg _ | grind [rg]) ?_
      refine a_iload_n (pc := 64) ok dX7_turn_64 rfl ?_
      refine a_sipush (pc := 65) ok dX7_turn_65 (by decide) ?_
      refine a_idiv (pc := 68) ok dX7_turn_68 (by first | omega | (unfold rg; omega) | (simp only [rg] at *; omega) | exact bz_rg _ | grind [rg]) (by first | omega | (unfold rg; omega) | (simp only [rg] at *; omega) | exact bz_rg _ | grind [rg]) ?_
      refine a_bipush (pc := 69) ok dX7_turn_69 (by decide) ?_
      refine a_irem (pc := 71) ok dX7_turn_71 (by first | omega | (unfold rg; omega) | (simp only [rg] at *; omega) | exact bz_rg _ | grind [rg]) (by first | omega | (unfold rg; omega) | (simp only [rg] at *; omega) | exact bz_rg _ | grind [rg]) ?_
      refine a_callVi (pc := 72) ok [0, 1, 2, 3, 4, 5, 6, 7, 8, 9, 10, 11, 12, 13, 14, 15] dX7_turn_72 mv7_328 miX7_paints (c_mpaints hS (by unfold rg; omega) (by unfold rg; omega) (by unfold rg; omega)) ⟨by decide, by decide, rfl, rfl, Nat.zero_le _, Nat.zero_le _⟩ rfl rfl (Nat.le_of_ble_eq_true rfl) rfl (by decide) rfl rfl rfl ?_
      refine a_pop (pc := 75) ok dX7_turn_75 rfl ?_
      refine a_goto (pc := 76) (tgt := 210) ok dX7_turn_76 (by decide) ?_
      exact a_vret (pc := 210) ok dX7_turn_210 (⟨rfl, gy, by rw [tn_p (S := S2) (n := n) (by omega)]; rfl⟩)
    · refine a_aload_n (pc := 52) ok dX7_turn_52 rfl ?_
      refine a_iload_n (pc := 53) ok dX7_turn_53 rfl ?_
      refine a_bipush (pc := 54) ok dX7_turn_54 (by decide) ?_
      refine a_irem (pc := 56) ok dX7_turn_56 (by first | omega | (unfold rg; omega) | (simp only [rg] at *; omega) | exact bz_rg _ | grind [rg]) (by first | omega | (unfold rg; omega) | (simp only [rg] at *; omega) | exact bz_rg _ | grind [rg]) ?_
      refine a_iload_n (pc := 57) ok dX7_turn_57 rfl ?_
      refine a_bipush (pc := 58) ok dX7_turn_58 (by decide) ?_
      refine a_idiv (pc := 60) ok dX7_turn_60 (by first | omega | (unfold rg; omega) | (simp only [rg] at *; omega) | exact bz_rg _ | grind [rg]) (by first | omega | (unfold rg; omega) | (simp only [rg] at *; omega) | exact bz_rg _ | grind [rg]) ?_
      refine a_bipush (pc := 61) ok dX7_turn_61 (by decide) ?_
      refine a_irem (pc := 63) ok dX7_turn_63 (by first | omega | (unfold rg; omega) | (simp only [rg] at *; omega) | exact bz_rg _ | grind [rg]) (by first | omega | (unfold rg; omega) | (simp only [rg] at *; omega) | exact bz_rg _ | grind [rg]) ?_
      refine a_iload_n (pc := 64) ok dX7_turn_64 rfl ?_
      refine a_sipush (pc := 65) ok dX7_turn_65 (by decide) ?_
      refine a_idiv (pc := 68) ok dX7_turn_68 (by first | omega | (unfold rg; omega) | (simp only [rg] at *; omega) | exact bz_rg _ | grind [rg]) (by first | omega | (unfold rg; omega) | (simp only [rg] at *; omega) | exact bz_rg _ | grind [rg]) ?_
      refine a_bipush (pc := 69) ok dX7_turn_69 (by decide) ?_
      refine a_irem (pc := 71) ok dX7_turn_71 (by first | omega | (unfold rg; omega) | (simp only [rg] at *; omega) | exact bz_rg _ | grind [rg]) (by first | omega | (unfold rg; omega) | (simp only [rg] at *; omega) | exact bz_rg _ | grind [rg]) ?_
      refine a_callVi (pc := 72) ok [0, 1, 2, 3, 4, 5, 6, 7, 8, 9, 10, 11, 12, 13, 14, 15] dX7_turn_72 mv7_328 miX7_paints (c_mpaints hS (by unfold rg; omega) (by unfold rg; omega) (by unfold rg; omega)) ⟨by decide, by decide, rfl, rfl, Nat.zero_le _, Nat.zero_le _⟩ rfl rfl (Nat.le_of_ble_eq_true rfl) rfl (by decide) rfl rfl rfl ?_
      refine a_pop (pc := 75) ok dX7_turn_75 rfl ?_
      refine a_goto (pc := 76) (tgt := 210) ok dX7_turn_76 (by decide) ?_
      exact a_vret (pc := 210) ok dX7_turn_210 (⟨rfl, gy, by rw [tn_p (S := S2) (n := n) (by omega)]; rfl⟩)
    · refine a_aload_n (pc := 79) ok dX7_turn_79 rfl ?_
      refine a_iload_n (pc := 80) ok dX7_turn_80 rfl ?_
      refine a_bipush (pc := 81) ok dX7_turn_81 (by decide) ?_
      refine a_irem (pc := 83) ok dX7_turn_83 (by first | omega | (unfold rg; omega) | (simp only [rg] at *; omega) | exact bz_rg _ | grind [rg]) (by first | omega | (unfold rg; omega) | (simp only [rg] at *; omega) | exact bz_rg _ | grind [rg]) ?_
      refine a_iload_n (pc := 84) ok dX7_turn_84 rfl ?_
      refine a_bipush (pc := 85) ok dX7_turn_85 (by decide) ?_
      refine a_idiv (pc := 87) ok dX7_turn_87 (by first | omega | (unfold rg; omega) | (simp only [rg] at *; omega) | exact bz_rg _ | grind [rg]) (by first | omega | (unfold rg; omega) | (simp only [rg] at *; omega) | exact bz_rg _ | grind [rg]) ?_
      refine a_bipush (pc := 88) ok dX7_turn_88 (by decide) ?_
      refine a_irem (pc := 90) ok dX7_turn_90 (by first | omega | (unfold rg; omega) | (simp only [rg] at *; omega) | exact bz_rg _ | grind [rg]) (by first | omega | (unfold rg; omega) | (simp only [rg] at *; omega) | exact bz_rg _ | grind [rg]) ?_
      refine a_iload_n (pc := 91) ok dX7_turn_91 rfl ?_
      refine a_sipush (pc := 92) ok dX7_turn_92 (by decide) ?_
      refine a_idiv (pc := 95) ok dX7_turn_95 (by first | omega | (unfold rg; omega) | (simp only [rg] at *; omega) | exact bz_rg _ | grind [rg]) (by first | omega | (unfold rg; omega) | (simp only [rg] at *; omega) | exact bz_rg _ | grind [rg]) ?_
      refine a_bipush (pc := 96) ok dX7_turn_96 (by decide) ?_
      refine a_irem (pc := 98) ok dX7_turn_98 (by first | omega | (unfold rg; omega) | (simp only [rg] at *; omega) | exact bz_rg _ | grind [rg]) (by first | omega | (unfold rg; omega) | (simp only [rg] at *; omega) | exact bz_rg _ | grind [rg]) ?_
      refine a_iload_n (pc := 99) ok dX7_turn_99 rfl ?_
      refine a_sipush (pc := 100) ok dX7_turn_100 (by decide) ?_
      refine a_idiv (pc := 103) ok dX7_turn_103 (by first | omega | (unfold rg; omega) | (simp only [rg] at *; omega) | exact bz_rg _ | grind [rg]) (by first | omega | (unfold rg; omega) | (simp only [rg] at *; omega) | exact bz_rg _ | grind [rg]) ?_
      refine a_iconst (pc := 104) ok dX7_turn_104 ?_
      refine a_irem (pc := 105) ok dX7_turn_105 (by first | omega | (unfold rg; omega) | (simp only [rg] at *; omega) | exact bz_rg _ | grind [rg]) (by first | omega | (unfold rg; omega) | (simp only [rg] at *; omega) | exact bz_rg _ | grind [rg]) ?_
      refine a_iload_n (pc := 106) ok dX7_turn_106 rfl ?_
      refine a_sipush (pc := 107) ok dX7_turn_107 (by decide) ?_
      refine a_idiv (pc := 110) ok dX7_turn_110 (by first | omega | (unfold rg; omega) | (simp only [rg] at *; omega) | exact bz_rg _ | grind [rg]) (by first | omega | (unfold rg; omega) | (simp only [rg] at *; omega) | exact bz_rg _ | grind [rg]) ?_
      refine a_iconst (pc := 111) ok dX7_turn_111 ?_
      refine a_irem (pc := 112) ok dX7_turn_112 (by first | omega | (unfold rg; omega) | (simp only [rg] at *; omega) | exact bz_rg _ | grind [rg]) (by first | omega | (unfold rg; omega) | (simp only [rg] at *; omega) | exact bz_rg _ | grind [rg]) ?_
      refine a_callVi (pc := 113) ok [0, 1, 2, 3, 4, 5, 6, 7, 8, 9, 10, 11, 12, 13, 14, 15] dX7_turn_113 mv7_331 miX7_boxes (c_mboxes hS (by omega) (by omega) (by unfold rg; omega) (by omega) (by omega)) ⟨by decide, by decide, rfl, rfl, Nat.zero_le _, Nat.zero_le _⟩ rfl rfl (Nat.le_of_ble_eq_true rfl) rfl (by decide) rfl rfl rfl ?_
      refine a_pop (pc := 116) ok dX7_turn_116 rfl ?_
      refine a_goto (pc := 117) (tgt := 210) ok dX7_turn_117 (by decide) ?_
      exact a_vret (pc := 210) ok dX7_turn_210 (⟨rfl, gy, by rw [tn_3 (S := S2) (n := n) (by omega)]; rfl⟩)
    · refine a_aload_n (pc := 120) ok dX7_turn_120 rfl ?_
      refine a_iconst (pc := 121) ok dX7_turn_121 ?_
      refine a_iload_n (pc := 122) ok dX7_turn_122 rfl ?_
      refine a_bipush (pc := 123) ok dX7_turn_123 (by decide) ?_
      refine a_irem (pc := 125) ok dX7_turn_125 (by first | omega | (unfold rg; omega) | (simp only [rg] at *; omega) | exact bz_rg _ | grind [rg]) (by first | omega | (unfold rg; omega) | (simp only [rg] at *; omega) | exact bz_rg _ | grind [rg]) ?_
      refine a_iadd (pc := 126) ok dX7_turn_126 ?_
      refine a_iload_n (pc := 127) ok dX7_turn_127 rfl ?_
      refine a_sipush (pc := 128) ok dX7_turn_128 (by decide) ?_
      refine a_idiv (pc := 131) ok dX7_turn_131 (by first | omega | (unfold rg; omega) | (simp only [rg] at *; omega) | exact bz_rg _ | grind [rg]) (by first | omega | (unfold rg; omega) | (simp only [rg] at *; omega) | exact bz_rg _ | grind [rg]) ?_
      refine a_iconst (pc := 132) ok dX7_turn_132 ?_
      refine a_irem (pc := 133) ok dX7_turn_133 (by first | omega | (unfold rg; omega) | (simp only [rg] at *; omega) | exact bz_rg _ | grind [rg]) (by first | omega | (unfold rg; omega) | (simp only [rg] at *; omega) | exact bz_rg _ | grind [rg]) ?_
      refine a_if_ne (pc := 134) (tgt := 141) ok dX7_turn_134 (by decide) (by first | omega | (unfold rg; omega) | (simp only [rg] at *; omega) | exact bz_rg _ | grind [rg]) (fun c134 => ?_) (fun c134 => ?_)
      · refine a_iconst (pc := 141) ok dX7_turn_141 ?_
        refine a_callVi (pc := 142) ok [0, 1, 2, 3, 4, 5, 6, 7, 8, 9, 10, 11, 12, 13, 14, 15] dX7_turn_142 mv7_335 miX7_parts (c_mparts hS (by unfold rg; omega) (by unfold rg; omega)) ⟨by decide, by decide, rfl, rfl, Nat.zero_le _, Nat.zero_le _⟩ rfl rfl (Nat.le_of_ble_eq_true rfl) rfl (by decide) rfl rfl rfl ?_
        refine a_pop (pc := 145) ok dX7_turn_145 rfl ?_
        refine a_goto (pc := 146) (tgt := 210) ok dX7_turn_146 (by decide) ?_
        exact a_vret (pc := 210) ok dX7_turn_210 (⟨rfl, gy, by rw [tn_4 (S := S2) (n := n) (by omega), if_neg (by omega)]; rfl⟩)
      · refine a_iconst (pc := 137) ok dX7_turn_137 ?_
        refine a_goto (pc := 138) (tgt := 142) ok dX7_turn_138 (by decide) ?_
        refine a_callVi (pc := 142) ok [0, 1, 2, 3, 4, 5, 6, 7, 8, 9, 10, 11, 12, 13, 14, 15] dX7_turn_142 mv7_335 miX7_parts (c_mparts hS (by unfold rg; omega) (by unfold rg; omega)) ⟨by decide, by decide, rfl, rfl, Nat.zero_le _, Nat.zero_le _⟩ rfl rfl (Nat.le_of_ble_eq_true rfl) rfl (by decide) rfl rfl rfl ?_
        refine a_pop (pc := 145) ok dX7_turn_145 rfl ?_
        refine a_goto (pc := 146) (tgt := 210) ok dX7_turn_146 (by decide) ?_
        exact a_vret (pc := 210) ok dX7_turn_210 (⟨rfl, gy, by rw [tn_4 (S := S2) (n := n) (by omega), if_pos (by omega)]; rfl⟩)
    · refine a_iload_n (pc := 149) ok dX7_turn_149 rfl ?_
      refine a_bipush (pc := 150) ok dX7_turn_150 (by decide) ?_
      refine a_idiv (pc := 152) ok dX7_turn_152 (by first | omega | (unfold rg; omega) | (simp only [rg] at *; omega) | exact bz_rg _ | grind [rg]) (by first | omega | (unfold rg; omega) | (simp only [rg] at *; omega) | exact bz_rg _ | grind [rg]) ?_
      refine a_iconst (pc := 153) ok dX7_turn_153 ?_
      refine a_irem (pc := 154) ok dX7_turn_154 (by first | omega | (unfold rg; omega) | (simp only [rg] at *; omega) | exact bz_rg _ | grind [rg]) (by first | omega | (unfold rg; omega) | (simp only [rg] at *; omega) | exact bz_rg _ | grind [rg]) ?_
      refine a_if_ne (pc := 155) (tgt := 172) ok dX7_turn_155 (by decide) (by first | omega | (unfold rg; omega) | (simp only [rg] at *; omega) | exact bz_rg _ | grind [rg]) (fun c155 => ?_) (fun c155 => ?_)
      · refine a_aload_n (pc := 172) ok dX7_turn_172 rfl ?_
        refine a_getf (pc := 173) ok dX7_turn_173 fl7_16 rfl rfl ?_
        refine a_callSi (pc := 176) ok [10] dX7_turn_176 mv7_234 miX7_invertOn (c_invertOn hd) ⟨by decide, by decide, rfl, rfl, Nat.zero_le _, Nat.zero_le _⟩ rfl rfl (Nat.le_of_ble_eq_true rfl) rfl (by decide) rfl ?_
        refine a_pop (pc := 179) ok dX7_turn_179 rfl ?_
        refine a_goto (pc := 180) (tgt := 210) ok dX7_turn_180 (by decide) ?_
        exact a_vret (pc := 210) ok dX7_turn_210 (⟨rfl, gy, by rw [tn_5 (S := S2) (n := n) (by omega), if_neg (by omega)]; rfl⟩)
      · refine a_aload_n (pc := 158) ok dX7_turn_158 rfl ?_
        refine a_iconst (pc := 159) ok dX7_turn_159 ?_
        refine a_iload_n (pc := 160) ok dX7_turn_160 rfl ?_
        refine a_bipush (pc := 161) ok dX7_turn_161 (by decide) ?_
        refine a_irem (pc := 163) ok dX7_turn_163 (by first | omega | (unfold rg; omega) | (simp only [rg] at *; omega) | exact bz_rg _ | grind [rg]) (by first | omega | (unfold rg; omega) | (simp only [rg] at *; omega) | exact bz_rg _ | grind [rg]) ?_
        refine a_iadd (pc := 164) ok dX7_turn_164 ?_
        refine a_callVi (pc := 165) ok [0, 1, 2, 3, 4, 5, 6, 7, 8, 9, 10, 11, 12, 13, 14, 15] dX7_turn_165 mv7_339 miX7_setsLeast (c_msetsLeast (by unfold rg; omega)) ⟨by decide, by decide, rfl, rfl, Nat.zero_le _, Nat.zero_le _⟩ rfl rfl (Nat.le_of_ble_eq_true rfl) rfl (by decide) rfl rfl rfl ?_
        refine a_pop (pc := 168) ok dX7_turn_168 rfl ?_
        refine a_goto (pc := 169) (tgt := 210) ok dX7_turn_169 (by decide) ?_
        exact a_vret (pc := 210) ok dX7_turn_210 (⟨rfl, gy, by rw [tn_5 (S := S2) (n := n) (by omega), if_pos (by omega)]; rfl⟩)
    · refine a_aload_n (pc := 183) ok dX7_turn_183 rfl ?_
      refine a_aload_n (pc := 184) ok dX7_turn_184 rfl ?_
      refine a_getf (pc := 185) ok dX7_turn_185 fl7_16 rfl rfl ?_
      refine x_callVi (pc := 188) ok [0, 10, 2, 3, 4, 5, 6, 7, 8, 9, 1, 10, 11, 12, 13, 14, 15] 10 dX7_turn_188 mv7_231 miX7_blurOn (c_blurOn hd hS.2.1) ⟨by decide, by decide, rfl, rfl, Nat.zero_le _, Nat.zero_le _⟩ rfl rfl (Nat.le_of_ble_eq_true rfl) mdM_len rfl (by decide) rfl rfl rfl ?_
      refine a_pop (pc := 191) ok dX7_turn_191 rfl ?_
      refine a_goto (pc := 192) (tgt := 210) ok dX7_turn_192 (by decide) ?_
      exact a_vret (pc := 210) ok dX7_turn_210 (⟨rfl, mapK (blF (sC S2) (sR S2) (sG S2)) (sC S2 * sR S2) gy, by rw [tn_6 (S := S2) (n := n) (by omega)]; rfl⟩)
  · refine a_aload_n (pc := 195) ok dX7_turn_195 rfl ?_
    refine a_aload_n (pc := 196) ok dX7_turn_196 rfl ?_
    refine a_getf (pc := 197) ok dX7_turn_197 fl7_16 rfl rfl ?_
    refine a_iconst (pc := 200) ok dX7_turn_200 ?_
    refine a_iload_n (pc := 201) ok dX7_turn_201 rfl ?_
    refine a_bipush (pc := 202) ok dX7_turn_202 (by decide) ?_
    refine a_irem (pc := 204) ok dX7_turn_204 (by first | omega | (unfold rg; omega) | (simp only [rg] at *; omega) | exact bz_rg _ | grind [rg]) (by first | omega | (unfold rg; omega) | (simp only [rg] at *; omega) | exact bz_rg _ | grind [rg]) ?_
    refine a_iadd (pc := 205) ok dX7_turn_205 ?_
    refine x_callVi (pc := 206) ok [0, 10, 2, 3, 4, 5, 6, 7, 8, 9, 1, 10, 11, 12, 13, 14, 15] 10 dX7_turn_206 mv7_237 miX7_spreadOn (c_spreadOn hd hS.2.1 (by omega)) ⟨by decide, by decide, rfl, rfl, Nat.zero_le _, Nat.zero_le _⟩ rfl rfl (Nat.le_of_ble_eq_true rfl) mdM_len rfl (by decide) rfl rfl rfl ?_
    refine a_pop (pc := 209) ok dX7_turn_209 rfl ?_
    exact a_vret (pc := 210) ok dX7_turn_210 (⟨rfl, mapK (fun j => spF (1 + n / 8 % 49) (sG S2 j)) (sC S2 * sR S2) gy, by rw [tn_7 (S := S2) (n := n) (by omega)]; rfl⟩)
end MQ2
