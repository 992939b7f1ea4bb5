/-! the Burrow: minutes, passing -/
theorem hasP_of {S : St} {x : Int32} {nP : Nat} (hP : S 12 1 = nI nP) (hP5 : nP ≤ 5) (h : ¬ hasPersonS S x = 0) : ∃ p, p < nP ∧ x = nI p := by
  unfold hasPersonS at h
  by_cases h1 : x < 0
  · simp [h1] at h
  · by_cases h2 : S 12 1 ≤ x
    · simp [h1, h2] at h
    · obtain ⟨j, hj, rfl⟩ := nI_of h1
      rw [hP, nI_leI (by omega) hj] at h2
      exact ⟨j, by omega, rfl⟩
theorem hasL_of {S : St} {x : Int32} {nL : Nat} (hL : S 12 0 = nI nL) (hL7 : nL ≤ 7) (h : ¬ hasLockS S x = 0) : ∃ k, k < nL ∧ x = nI k := by
  unfold hasLockS at h
  by_cases h1 : x < 0
  · simp [h1] at h
  · by_cases h2 : S 12 0 ≤ x
    · simp [h1, h2] at h
    · obtain ⟨j, hj, rfl⟩ := nI_of h1
      rw [hL, nI_leI (by omega) hj] at h2
      exact ⟨j, by omega, rfl⟩
theorem isRoom_of {x : Int32} (h : ¬ isRoomS x = 0) : ∃ r, r < 6 ∧ x = nI r := by
  unfold isRoomS at h
  by_cases h1 : x < 0
  · simp [h1] at h
  · by_cases h2 : 6 ≤ x
    · simp [h1, h2] at h
    · obtain ⟨j, hj, rfl⟩ := nI_of h1
      have h3 : ¬ nI 6 ≤ nI j := h2
      rw [nI_leI (by omega) hj] at h3
      exact ⟨j, by omega, rfl⟩
theorem isPlace_of {x : Int32} (h : ¬ isPlaceS x = 0) : ∃ r, r < 7 ∧ x = nI r := by
  unfold isPlaceS at h
  by_cases h1 : x < 0
  · simp [h1] at h
  · by_cases h2 : 7 ≤ x
    · simp [h1, h2] at h
    · obtain ⟨j, hj, rfl⟩ := nI_of h1
      have h3 : ¬ nI 7 ≤ nI j := h2
      rw [nI_leI (by omega) hj] at h3
      exact ⟨j, by omega, rfl⟩
theorem isRoom_yes {r : Nat} (h : r < 6) : isRoomS (nI r) = 1 := by
  unfold isRoomS
  rw [if_neg (nI_pos (by omega)), if_neg (show ¬ (6 : Int32) ≤ nI r from nI_ge (a := r) (b := 6) h (by omega))]
abbrev cl (x : Int32) : Nat := x.toNatClampNeg
def airBehindS (S : St) (nP : Nat) (j : Nat) (lk n : Int32) : Int32 := mx 0 (S 0 j - n * (lk + breathInS S nP (nI j)))
def leftS (S : St) (nP r : Nat) : Int32 := S 0 r - S 1 r - breathInS S nP (nI r)
def lmA (nP : Nat) (S : St) : Nat → St
  | 0 => S
  | n + 1 => sw (lmA nP S n) 0 n (mx 0 (leftS (lmA nP S n) nP n))
def lmAg (nP : Nat) (S : St) : Nat → Int32
  | 0 => 0
  | n + 1 => if 0 ≤ leftS (lmA nP S n) nP n then lmAg nP S n else lmAg nP S n + cnt (lmA nP S n 8) (nI n) nP
def lmB (S : St) : Nat → St
  | 0 => S
  | n + 1 => if lmB S n 8 n = 6 then sw (lmB S n) 10 n (mx 0 (lmB S n 10 n - 1)) else lmB S n
def one0 (x : Int32) : Int32 := if x = 0 then 1 else 0
def lmBg (S : St) (g : Int32) : Nat → Int32
  | 0 => g
  | n + 1 => if lmB S n 8 n = 6 then lmBg S g n + one0 (lmB S n 10 n) else lmBg S g n
theorem lmA_row (nP : Nat) (S : St) {k : Nat} (h : k ≠ 0) : ∀ n, lmA nP S n k = S k
  | 0 => rfl
  | n + 1 => by rw [lmA, sw_ne _ _ _ h, lmA_row nP S h n]
theorem lmB_row (S : St) {k : Nat} (h : k ≠ 10) : ∀ n, lmB S n k = S k
  | 0 => rfl
  | n + 1 => by
    rw [lmB]
    split
    · rw [sw_ne _ _ _ h, lmB_row S h n]
    · exact lmB_row S h n
theorem lmA_12 (nP : Nat) (S : St) (n : Nat) : lmA nP S n 12 = S 12 := lmA_row nP S (by decide) n
theorem lmB_12 (S : St) (n : Nat) : lmB S n 12 = S 12 := lmB_row S (by decide) n
def liveG (nP : Nat) (S : St) : Int32 := lmBg (lmA nP S 6) (lmAg nP S 6) nP
def liveS (nP : Nat) (S : St) : St := sw (sw (lmB (lmA nP S 6) nP) 12 2 (lmB (lmA nP S 6) nP 12 2 + 1)) 12 3 (sw (lmB (lmA nP S 6) nP) 12 2 (lmB (lmA nP S 6) nP 12 2 + 1) 12 3 + liveG nP S)
def liveN (nP : Nat) (S : St) : Nat → St
  | 0 => S
  | n + 1 => liveS nP (liveN nP S n)
theorem liveS_12 (nP : Nat) (S : St) : liveS nP S 12 1 = S 12 1 ∧ liveS nP S 12 0 = S 12 0 := by
  constructor <;> (unfold liveS; rw [sw_eq, sw_eq]; simp [upd, lmA_12, lmB_12])
theorem liveN_12 (nP : Nat) (S : St) : ∀ n, liveN nP S n 12 1 = S 12 1 ∧ liveN nP S n 12 0 = S 12 0
  | 0 => ⟨rfl, rfl⟩
  | n + 1 => by rw [liveN, (liveS_12 nP _).1, (liveS_12 nP _).2]; exact liveN_12 nP S n
def canPassS (S : St) (x y : Int32) : Int32 := if hasPersonS S x = 0 then 0 else if hasLockS S y = 0 then 0 else if ¬ S 6 (cl y) = 0 then 0 else if S 8 (cl x) = S 2 (cl y) then 1 else if S 8 (cl x) = S 3 (cl y) then 1 else 0
def goA (S : St) (p k : Nat) : St := sw S 8 p (if S 8 p = S 2 k then S 3 k else S 2 k)
def goB (S : St) (p k : Nat) : St := if S 3 k = 6 then (if isRoomS (S 2 k) = 0 then goA S p k else sw (goA S p k) 0 (cl (S 2 k)) (mx 0 (S 0 (cl (S 2 k)) - S 4 k))) else goA S p k
theorem goA_row (S : St) (p k : Nat) {r : Nat} (h : r ≠ 8) : goA S p k r = S r := sw_ne _ _ _ h
theorem goB_row (S : St) (p k : Nat) {r : Nat} (h : r ≠ 8) (h0 : r ≠ 0) : goB S p k r = S r := by
  unfold goB
  split
  · split
    · exact goA_row S p k h
    · rw [sw_ne _ _ _ h0, goA_row S p k h]
  · exact goA_row S p k h
def goS (nP : Nat) (S : St) (p k : Nat) : St := liveN nP (goB S p k) (cl (S 5 k))
theorem goS_eq {nP : Nat} {S : St} {p k c9 : Nat} {T : St} (hc : S 5 k = nI c9) (hc9 : c9 < 2 ^ 31) (h : goB S p k = T) : liveN nP T c9 = goS nP S p k := by
  unfold goS
  rw [hc, show cl (nI c9) = c9 from nI_clamp hc9, h]
theorem goB_1 {S : St} {p k : Nat} (h : ¬ S 3 k = 6) : goB S p k = sw S 8 p (if S 8 p = S 2 k then S 3 k else S 2 k) := if_neg h
theorem goB_2 {S : St} {p k : Nat} (h : S 3 k = 6) (h2 : isRoomS (S 2 k) = 0) : goB S p k = sw S 8 p (if S 8 p = S 2 k then S 3 k else S 2 k) := by
  unfold goB
  rw [if_pos h, if_pos h2]
  rfl
theorem goB_3 {S : St} {p k r : Nat} (h : S 3 k = 6) (h2 : ¬ isRoomS (S 2 k) = 0) (hr6 : r < 6) (hr : S 2 k = nI r) : goB S p k = sw (sw S 8 p (if S 8 p = S 2 k then S 3 k else S 2 k)) 0 r (mx 0 (S 0 r - S 4 k)) := by
  unfold goB
  rw [if_pos h, if_neg h2]
  have e : cl (S 2 k) = r := by rw [hr]; exact nI_clamp (by omega)
  rw [e]
  rfl
set_option maxHeartbeats 4000000 in
set_option maxRecDepth 20000 in
theorem con_B_liveMinute (l : Launch) (Z : ZZ) (h : Nat) (q : Nat → Nat) (S : St) (nP : Nat) (hP : S 12 1 = nI nP) (hP5 : nP ≤ 5) : Con l Z yB_liveMinute cB_liveMinute 4 (some .int) 2 [.ref h] (wB Z h q S) (Fn (some (.int (liveG nP S))) (wB Z h q (liveS nP S))) := by
  refine Con.of (by decide) (Nat.le_of_ble_eq_true rfl) (fun X hX hQ => ?_)
  show G X Z (wB Z h q S) 0 [(0, .ref h)] []
  refine g_iconst (v := 0) hX dB_liveMinute_0 (by decide) ?_
  refine g_istore_n (lv1 := [(0, .ref h), (1, .int 0)]) hX dB_liveMinute_1 (by decide) [1, 0] rfl ?_
  refine g_iconst (v := 0) hX dB_liveMinute_2 (by decide) ?_
  refine g_istore_n (lv1 := [(0, .ref h), (1, .int 0), (2, .int 0)]) hX dB_liveMinute_3 (by decide) [1, 2, 0] rfl ?_
  have hL_4 : ∀ i, i ≤ 6 → G X Z (wB Z h q (lmA nP S i)) 4 [(0, .ref h), (1, .int (lmAg nP S i)), (2, .int (nI i))] [] := by
    refine loopUp _ 6 ?_ (fun i hi_i ih_i => ?_)
    · skip
      refine g_iload_n hX dB_liveMinute_4 2 rfl ?_
      refine g_bipush (v := 6) hX dB_liveMinute_5 (by decide) ?_
      refine g_icmp_ge hX 59 dB_liveMinute_7 (by decide) (fun c_7 => ?_) (fun c_7 => absurd (nI_le (a := 6) (b := 6) (Nat.le_refl _) (by omega)) c_7)
      refine g_iconst (v := 0) hX dB_liveMinute_59 (by decide) ?_
      refine g_istore_n (lv1 := [(0, .ref h), (1, .int (lmAg nP S 6)), (2, .int 0)]) hX dB_liveMinute_60 (by decide) [1, 2, 0] rfl ?_
      have hL_61 : ∀ i2, i2 ≤ nP → G X Z (wB Z h q (lmB (lmA nP S 6) i2)) 61 [(0, .ref h), (1, .int (lmBg (lmA nP S 6) (lmAg nP S 6) i2)), (2, .int (nI i2))] [] := by
        refine loopUp _ nP ?_ (fun i2 hi_i2 ih_i2 => ?_)
        · skip
          refine g_iload_n hX dB_liveMinute_61 2 rfl ?_
          refine g_aload_n hX dB_liveMinute_62 0 rfl ?_
          refine g_get hX 0 rfl rfl 12 (by decide) uu_B q_60 rfl rfl dB_liveMinute_63 ?_
          refine g_top (y := (nI nP)) (by first | exact hP | simpa [lmA_12, lmB_12, liveS_12, liveN_12, sw] using hP) ?_
          refine g_icmp_ge hX 121 dB_liveMinute_66 (by decide) (fun c_66 => ?_) (fun c_66 => absurd (nI_le (a := nP) (b := nP) (Nat.le_refl _) (by omega)) c_66)
          refine g_aload_n hX dB_liveMinute_121 0 rfl ?_
          refine g_dup hX dB_liveMinute_122 rfl ?_
          refine g_get hX 0 rfl rfl 14 (by decide) uu_B q_63 rfl rfl dB_liveMinute_123 ?_
          refine g_iconst (v := 1) hX dB_liveMinute_126 (by decide) ?_
          refine g_iadd (z := (((lmB (lmA nP S 6) nP) 12 2) + 1)) hX dB_liveMinute_127 (rfl) ?_
          refine g_put (ws1 := wB Z h q (sw (lmB (lmA nP S 6) nP) 12 2 (((lmB (lmA nP S 6) nP) 12 2) + 1))) hX 0 rfl rfl 14 (by decide) uu_B tyF_B tyF_B_ok nmF_B q_63 rfl rfl rfl rfl rfl (Nat.le_of_ble_eq_true rfl) dB_liveMinute_128 rfl ?_
          refine g_aload_n hX dB_liveMinute_131 0 rfl ?_
          refine g_dup hX dB_liveMinute_132 rfl ?_
          refine g_get hX 0 rfl rfl 15 (by decide) uu_B q_65 rfl rfl dB_liveMinute_133 ?_
          refine g_iload_n hX dB_liveMinute_136 1 rfl ?_
          refine g_iadd (z := (((sw (lmB (lmA nP S 6) nP) 12 2 (((lmB (lmA nP S 6) nP) 12 2) + 1)) 12 3) + (lmBg (lmA nP S 6) (lmAg nP S 6) nP))) hX dB_liveMinute_137 (rfl) ?_
          refine g_put (ws1 := wB Z h q (sw (sw (lmB (lmA nP S 6) nP) 12 2 (((lmB (lmA nP S 6) nP) 12 2) + 1)) 12 3 (((sw (lmB (lmA nP S 6) nP) 12 2 (((lmB (lmA nP S 6) nP) 12 2) + 1)) 12 3) + (lmBg (lmA nP S 6) (lmAg nP S 6) nP)))) hX 0 rfl rfl 15 (by decide) uu_B tyF_B tyF_B_ok nmF_B q_65 rfl rfl rfl rfl rfl (Nat.le_of_ble_eq_true rfl) dB_liveMinute_138 rfl ?_
          refine g_iload_n hX dB_liveMinute_141 1 rfl ?_
          exact r_iret hX hQ dB_liveMinute_142 rfl (⟨rfl, rfl⟩)
        · skip
          refine g_iload_n hX dB_liveMinute_61 2 rfl ?_
          refine g_aload_n hX dB_liveMinute_62 0 rfl ?_
          refine g_get hX 0 rfl rfl 12 (by decide) uu_B q_60 rfl rfl dB_liveMinute_63 ?_
          refine g_top (y := (nI nP)) (by first | exact hP | simpa [lmA_12, lmB_12, liveS_12, liveN_12, sw] using hP) ?_
          refine g_icmp_ge hX 121 dB_liveMinute_66 (by decide) (fun c_66 => absurd c_66 (nI_ge (a := i2) (b := nP) hi_i2 (by omega))) (fun c_66 => ?_)
          refine g_aload_n hX dB_liveMinute_69 0 rfl ?_
          refine g_get hX 0 rfl rfl 9 (by decide) uu_B q_54 rfl rfl dB_liveMinute_70 ?_
          refine g_iload_n hX dB_liveMinute_73 2 rfl ?_
          refine g_ald (v := ((lmB (lmA nP S 6) i2) 8 i2)) hX 9 rfl i2 (by omega) (by decide) (rfl) (rfl) dB_liveMinute_74 ?_
          refine g_bipush (v := 6) hX dB_liveMinute_75 (by decide) ?_
          refine g_icmp_ne hX 115 dB_liveMinute_77 (by decide) (fun c_77 => ?_) (fun c_77 => ?_)
          · refine g_iinc (v := (nI (i2 + 1))) (lv1 := [(0, .ref h), (1, .int (lmBg (lmA nP S 6) (lmAg nP S 6) i2)), (2, .int (nI (i2 + 1)))]) hX dB_liveMinute_115 2 rfl (inc_nat _) (by decide) [1, 2, 0] rfl ?_
            refine g_goto hX 61 dB_liveMinute_118 (by decide) ?_
            have e_1 : (lmBg (lmA nP S 6) (lmAg nP S 6) i2) = (lmBg (lmA nP S 6) (lmAg nP S 6) (i2 + 1)) := by simp [lmBg, c_7, c_66, c_77]
            have e_S : lmB (lmA nP S 6) i2 = lmB (lmA nP S 6) (i2 + 1) := by simp [lmB, c_7, c_66, c_77]
            exact g_eq (by rw [e_S]) (by rw [e_1]) rfl ih_i2
          · refine g_iload_n hX dB_liveMinute_80 1 rfl ?_
            refine g_aload_n hX dB_liveMinute_81 0 rfl ?_
            refine g_get hX 0 rfl rfl 11 (by decide) uu_B q_58 rfl rfl dB_liveMinute_82 ?_
            refine g_iload_n hX dB_liveMinute_85 2 rfl ?_
            refine g_ald (v := ((lmB (lmA nP S 6) i2) 10 i2)) hX 11 rfl i2 (by omega) (by decide) (rfl) (rfl) dB_liveMinute_86 ?_
            have hJ_95 : G X Z (wB Z h q (lmB (lmA nP S 6) i2)) 95 [(0, .ref h), (1, .int (lmBg (lmA nP S 6) (lmAg nP S 6) i2)), (2, .int (nI i2))] [.int (one0 ((lmB (lmA nP S 6) i2) 10 i2)), .int (lmBg (lmA nP S 6) (lmAg nP S 6) i2)] := by
              refine g_iadd (z := ((lmBg (lmA nP S 6) (lmAg nP S 6) i2) + (one0 ((lmB (lmA nP S 6) i2) 10 i2)))) hX dB_liveMinute_95 (rfl) ?_
              refine g_istore_n (lv1 := [(0, .ref h), (1, .int ((lmBg (lmA nP S 6) (lmAg nP S 6) i2) + (one0 ((lmB (lmA nP S 6) i2) 10 i2)))), (2, .int (nI i2))]) hX dB_liveMinute_96 (by decide) [1, 0, 2] rfl ?_
              refine g_aload_n hX dB_liveMinute_97 0 rfl ?_
              refine g_get hX 0 rfl rfl 11 (by decide) uu_B q_58 rfl rfl dB_liveMinute_98 ?_
              refine g_iload_n hX dB_liveMinute_101 2 rfl ?_
              refine g_iconst (v := 0) hX dB_liveMinute_102 (by decide) ?_
              refine g_aload_n hX dB_liveMinute_103 0 rfl ?_
              refine g_get hX 0 rfl rfl 11 (by decide) uu_B q_58 rfl rfl dB_liveMinute_104 ?_
              refine g_iload_n hX dB_liveMinute_107 2 rfl ?_
              refine g_ald (v := ((lmB (lmA nP S 6) i2) 10 i2)) hX 11 rfl i2 (by omega) (by decide) (rfl) (rfl) dB_liveMinute_108 ?_
              refine g_iconst (v := 1) hX dB_liveMinute_109 (by decide) ?_
              refine g_isub (z := (((lmB (lmA nP S 6) i2) 10 i2) - 1)) hX dB_liveMinute_110 (rfl) ?_
              refine g_mmax (z := (mx 0 (((lmB (lmA nP S 6) i2) 10 i2) - 1))) hX q_300 q_301 q_12 q_302 dB_liveMinute_111 (by decide) (Nat.le_of_ble_eq_true rfl) (rfl) ?_
              refine g_ast (ws1 := wB Z h q (sw (lmB (lmA nP S 6) i2) 10 i2 (mx 0 (((lmB (lmA nP S 6) i2) 10 i2) - 1)))) hX 11 rfl i2 (by omega) (by decide) (rfl) dB_liveMinute_114 rfl ?_
              refine g_iinc (v := (nI (i2 + 1))) (lv1 := [(0, .ref h), (1, .int ((lmBg (lmA nP S 6) (lmAg nP S 6) i2) + (one0 ((lmB (lmA nP S 6) i2) 10 i2)))), (2, .int (nI (i2 + 1)))]) hX dB_liveMinute_115 2 rfl (inc_nat _) (by decide) [1, 2, 0] rfl ?_
              refine g_goto hX 61 dB_liveMinute_118 (by decide) ?_
              have e_1 : ((lmBg (lmA nP S 6) (lmAg nP S 6) i2) + (one0 ((lmB (lmA nP S 6) i2) 10 i2))) = (lmBg (lmA nP S 6) (lmAg nP S 6) (i2 + 1)) := by simp [lmBg, c_7, c_66, c_77]
              have e_S : sw (lmB (lmA nP S 6) i2) 10 i2 (mx 0 (((lmB (lmA nP S 6) i2) 10 i2) - 1)) = lmB (lmA nP S 6) (i2 + 1) := by simp [lmB, c_7, c_66, c_77]
              exact g_eq (by rw [e_S]) (by rw [e_1]) rfl ih_i2
            refine g_if_ne hX 94 dB_liveMinute_87 (by decide) (fun c_87 => ?_) (fun c_87 => ?_)
            · refine g_iconst (v := 0) hX dB_liveMinute_94 (by decide) ?_
              refine g_top (y := (one0 ((lmB (lmA nP S 6) i2) 10 i2))) (by simp [one0, c_7, c_66, c_77, c_87]) ?_
              exact hJ_95
            · refine g_iconst (v := 1) hX dB_liveMinute_90 (by decide) ?_
              refine g_goto hX 95 dB_liveMinute_91 (by decide) ?_
              refine g_top (y := (one0 ((lmB (lmA nP S 6) i2) 10 i2))) (by simp [one0, c_7, c_66, c_77, c_87]) ?_
              exact hJ_95
      exact hL_61 0 (Nat.zero_le _)
    · skip
      refine g_iload_n hX dB_liveMinute_4 2 rfl ?_
      refine g_bipush (v := 6) hX dB_liveMinute_5 (by decide) ?_
      refine g_icmp_ge hX 59 dB_liveMinute_7 (by decide) (fun c_7 => absurd c_7 (nI_ge (a := i) (b := 6) hi_i (by omega))) (fun c_7 => ?_)
      refine g_aload_n hX dB_liveMinute_10 0 rfl ?_
      refine g_get hX 0 rfl rfl 0 (by decide) uu_B q_32 rfl rfl dB_liveMinute_11 ?_
      refine g_iload_n hX dB_liveMinute_14 2 rfl ?_
      refine g_ald (v := ((lmA nP S i) 0 i)) hX 1 rfl i (by omega) (by decide) (rfl) (rfl) dB_liveMinute_15 ?_
      refine g_aload_n hX dB_liveMinute_16 0 rfl ?_
      refine g_get hX 0 rfl rfl 1 (by decide) uu_B q_34 rfl rfl dB_liveMinute_17 ?_
      refine g_iload_n hX dB_liveMinute_20 2 rfl ?_
      refine g_ald (v := ((lmA nP S i) 1 i)) hX 2 rfl i (by omega) (by decide) (rfl) (rfl) dB_liveMinute_21 ?_
      refine g_isub (z := (((lmA nP S i) 0 i) - ((lmA nP S i) 1 i))) hX dB_liveMinute_22 (rfl) ?_
      refine g_aload_n hX dB_liveMinute_23 0 rfl ?_
      refine g_iload_n hX dB_liveMinute_24 2 rfl ?_
      refine g_callV hX (con_B_breathIn l Z h q (lmA nP S i) (nI i) nP (by first | exact hP | simpa [lmA_12, lmB_12, liveS_12, liveN_12, sw] using hP) hP5) mvB_breathIn q_378 rfl (by decide) 0 rfl rfl rfl (Nat.le_of_ble_eq_true rfl) dB_liveMinute_25 [0, 1, 2, 3, 4, 5, 6, 7, 8, 9, 10, 11, 12] rfl rfl (g_fn (ws1 := wB Z h q (lmA nP S i)) (st1 := [.int (breathInS (lmA nP S i) nP (nI i)), .int (((lmA nP S i) 0 i) - ((lmA nP S i) 1 i))]) rfl rfl ?_)
      refine g_isub (z := ((((lmA nP S i) 0 i) - ((lmA nP S i) 1 i)) - (breathInS (lmA nP S i) nP (nI i)))) hX dB_liveMinute_28 (rfl) ?_
      refine g_istore_n (lv1 := [(0, .ref h), (1, .int (lmAg nP S i)), (2, .int (nI i)), (3, .int ((((lmA nP S i) 0 i) - ((lmA nP S i) 1 i)) - (breathInS (lmA nP S i) nP (nI i))))]) hX dB_liveMinute_29 (by decide) [1, 2, 3, 0] rfl ?_
      refine g_iload_n hX dB_liveMinute_30 3 rfl ?_
      refine g_if_ge hX 42 dB_liveMinute_31 (by decide) (fun c_31 => ?_) (fun c_31 => ?_)
      · refine g_aload_n hX dB_liveMinute_42 0 rfl ?_
        refine g_get hX 0 rfl rfl 0 (by decide) uu_B q_32 rfl rfl dB_liveMinute_43 ?_
        refine g_iload_n hX dB_liveMinute_46 2 rfl ?_
        refine g_iconst (v := 0) hX dB_liveMinute_47 (by decide) ?_
        refine g_iload_n hX dB_liveMinute_48 3 rfl ?_
        refine g_mmax (z := (mx 0 ((((lmA nP S i) 0 i) - ((lmA nP S i) 1 i)) - (breathInS (lmA nP S i) nP (nI i))))) hX q_300 q_301 q_12 q_302 dB_liveMinute_49 (by decide) (Nat.le_of_ble_eq_true rfl) (rfl) ?_
        refine g_ast (ws1 := wB Z h q (sw (lmA nP S i) 0 i (mx 0 ((((lmA nP S i) 0 i) - ((lmA nP S i) 1 i)) - (breathInS (lmA nP S i) nP (nI i)))))) hX 1 rfl i (by omega) (by decide) (rfl) dB_liveMinute_52 rfl ?_
        refine g_iinc (v := (nI (i + 1))) (lv1 := [(0, .ref h), (1, .int (lmAg nP S i)), (2, .int (nI (i + 1))), (3, .int ((((lmA nP S i) 0 i) - ((lmA nP S i) 1 i)) - (breathInS (lmA nP S i) nP (nI i))))]) hX dB_liveMinute_53 2 rfl (inc_nat _) (by decide) [1, 2, 0, 3] rfl ?_
        refine g_goto hX 4 dB_liveMinute_56 (by decide) ?_
        refine g_lv (lv1 := [(0, .ref h), (1, .int (lmAg nP S i)), (2, .int (nI (i + 1)))]) [0, 1, 2] rfl ?_
        have e_1 : (lmAg nP S i) = (lmAg nP S (i + 1)) := by simp [lmAg, leftS, c_7, c_31]
        have e_S : sw (lmA nP S i) 0 i (mx 0 ((((lmA nP S i) 0 i) - ((lmA nP S i) 1 i)) - (breathInS (lmA nP S i) nP (nI i)))) = lmA nP S (i + 1) := by rfl
        exact g_eq (by rw [e_S]) (by rw [e_1]) rfl ih_i
      · refine g_iload_n hX dB_liveMinute_34 1 rfl ?_
        refine g_aload_n hX dB_liveMinute_35 0 rfl ?_
        refine g_iload_n hX dB_liveMinute_36 2 rfl ?_
        refine g_callV hX (con_B_peopleAt l Z h q (lmA nP S i) (nI i) nP (by first | exact hP | simpa [lmA_12, lmB_12, liveS_12, liveN_12, sw] using hP) hP5) mvB_peopleAt q_327 rfl (by decide) 0 rfl rfl rfl (Nat.le_of_ble_eq_true rfl) dB_liveMinute_37 [0, 1, 2, 3, 4, 5, 6, 7, 8, 9, 10, 11, 12] rfl rfl (g_fn (ws1 := wB Z h q (lmA nP S i)) (st1 := [.int (cnt ((lmA nP S i) 8) (nI i) nP), .int (lmAg nP S i)]) rfl rfl ?_)
        refine g_iadd (z := ((lmAg nP S i) + (cnt ((lmA nP S i) 8) (nI i) nP))) hX dB_liveMinute_40 (rfl) ?_
        refine g_istore_n (lv1 := [(0, .ref h), (1, .int ((lmAg nP S i) + (cnt ((lmA nP S i) 8) (nI i) nP))), (2, .int (nI i)), (3, .int ((((lmA nP S i) 0 i) - ((lmA nP S i) 1 i)) - (breathInS (lmA nP S i) nP (nI i))))]) hX dB_liveMinute_41 (by decide) [1, 0, 2, 3] rfl ?_
        refine g_aload_n hX dB_liveMinute_42 0 rfl ?_
        refine g_get hX 0 rfl rfl 0 (by decide) uu_B q_32 rfl rfl dB_liveMinute_43 ?_
        refine g_iload_n hX dB_liveMinute_46 2 rfl ?_
        refine g_iconst (v := 0) hX dB_liveMinute_47 (by decide) ?_
        refine g_iload_n hX dB_liveMinute_48 3 rfl ?_
        refine g_mmax (z := (mx 0 ((((lmA nP S i) 0 i) - ((lmA nP S i) 1 i)) - (breathInS (lmA nP S i) nP (nI i))))) hX q_300 q_301 q_12 q_302 dB_liveMinute_49 (by decide) (Nat.le_of_ble_eq_true rfl) (rfl) ?_
        refine g_ast (ws1 := wB Z h q (sw (lmA nP S i) 0 i (mx 0 ((((lmA nP S i) 0 i) - ((lmA nP S i) 1 i)) - (breathInS (lmA nP S i) nP (nI i)))))) hX 1 rfl i (by omega) (by decide) (rfl) dB_liveMinute_52 rfl ?_
        refine g_iinc (v := (nI (i + 1))) (lv1 := [(0, .ref h), (1, .int ((lmAg nP S i) + (cnt ((lmA nP S i) 8) (nI i) nP))), (2, .int (nI (i + 1))), (3, .int ((((lmA nP S i) 0 i) - ((lmA nP S i) 1 i)) - (breathInS (lmA nP S i) nP (nI i))))]) hX dB_liveMinute_53 2 rfl (inc_nat _) (by decide) [1, 2, 0, 3] rfl ?_
        refine g_goto hX 4 dB_liveMinute_56 (by decide) ?_
        refine g_lv (lv1 := [(0, .ref h), (1, .int ((lmAg nP S i) + (cnt ((lmA nP S i) 8) (nI i) nP))), (2, .int (nI (i + 1)))]) [0, 1, 2] rfl ?_
        have e_1 : ((lmAg nP S i) + (cnt ((lmA nP S i) 8) (nI i) nP)) = (lmAg nP S (i + 1)) := by simp [lmAg, leftS, c_7, c_31]
        have e_S : sw (lmA nP S i) 0 i (mx 0 ((((lmA nP S i) 0 i) - ((lmA nP S i) 1 i)) - (breathInS (lmA nP S i) nP (nI i)))) = lmA nP S (i + 1) := by rfl
        exact g_eq (by rw [e_S]) (by rw [e_1]) rfl ih_i
  exact hL_4 0 (Nat.zero_le _)
set_option maxHeartbeats 4000000 in
set_option maxRecDepth 20000 in
theorem con_B_liveMinutes (l : Launch) (Z : ZZ) (h : Nat) (q : Nat → Nat) (S : St) (n : Nat) (hn : n < 2 ^ 31) (nP : Nat) (hP : S 12 1 = nI nP) (hP5 : nP ≤ 5) : Con l Z yB_liveMinutes cB_liveMinutes 4 (some .int) 3 [.ref h, .int (nI n)] (wB Z h q S) (Fn (some (.int (liveN nP S n 12 3 - S 12 3))) (wB Z h q (liveN nP S n))) := by
  refine Con.of (by decide) (Nat.le_of_ble_eq_true rfl) (fun X hX hQ => ?_)
  show G X Z (wB Z h q S) 0 [(0, .ref h), (1, .int (nI n))] []
  refine g_aload_n hX dB_liveMinutes_0 0 rfl ?_
  refine g_get hX 0 rfl rfl 15 (by decide) uu_B q_65 rfl rfl dB_liveMinutes_1 ?_
  refine g_istore_n (lv1 := [(0, .ref h), (1, .int (nI n)), (2, .int (S 12 3))]) hX dB_liveMinutes_4 (by decide) [1, 2, 0] rfl ?_
  refine g_iconst (v := 0) hX dB_liveMinutes_5 (by decide) ?_
  refine g_istore_n (lv1 := [(0, .ref h), (1, .int (nI n)), (2, .int (S 12 3)), (3, .int 0)]) hX dB_liveMinutes_6 (by decide) [1, 2, 3, 0] rfl ?_
  have hL_7 : ∀ i, i ≤ n → G X Z (wB Z h q (liveN nP S i)) 7 [(0, .ref h), (1, .int (nI n)), (2, .int (S 12 3)), (3, .int (nI i))] [] := by
    refine loopUp _ n ?_ (fun i hi_i ih_i => ?_)
    · skip
      refine g_iload_n hX dB_liveMinutes_7 3 rfl ?_
      refine g_iload_n hX dB_liveMinutes_8 1 rfl ?_
      refine g_icmp_ge hX 23 dB_liveMinutes_9 (by decide) (fun c_9 => ?_) (fun c_9 => absurd (nI_le (a := n) (b := n) (Nat.le_refl _) (by omega)) c_9)
      refine g_aload_n hX dB_liveMinutes_23 0 rfl ?_
      refine g_get hX 0 rfl rfl 15 (by decide) uu_B q_65 rfl rfl dB_liveMinutes_24 ?_
      refine g_iload_n hX dB_liveMinutes_27 2 rfl ?_
      refine g_isub (z := (((liveN nP S n) 12 3) - (S 12 3))) hX dB_liveMinutes_28 (rfl) ?_
      exact r_iret hX hQ dB_liveMinutes_29 rfl (⟨rfl, rfl⟩)
    · skip
      refine g_iload_n hX dB_liveMinutes_7 3 rfl ?_
      refine g_iload_n hX dB_liveMinutes_8 1 rfl ?_
      refine g_icmp_ge hX 23 dB_liveMinutes_9 (by decide) (fun c_9 => absurd c_9 (nI_ge (a := i) (b := n) hi_i (by omega))) (fun c_9 => ?_)
      refine g_aload_n hX dB_liveMinutes_12 0 rfl ?_
      refine g_callV hX (con_B_liveMinute l Z h q (liveN nP S i) nP (by first | exact hP | simpa [lmA_12, lmB_12, liveS_12, liveN_12, sw] using hP) hP5) mvB_liveMinute q_374 rfl (by decide) 0 rfl rfl rfl (Nat.le_of_ble_eq_true rfl) dB_liveMinutes_13 [0, 1, 2, 3, 4, 5, 6, 7, 8, 9, 10, 11, 12] rfl rfl (g_fn (ws1 := wB Z h q (liveS nP (liveN nP S i))) (st1 := [.int (liveG nP (liveN nP S i))]) rfl rfl ?_)
      refine g_pop hX dB_liveMinutes_16 rfl ?_
      refine g_iinc (v := (nI (i + 1))) (lv1 := [(0, .ref h), (1, .int (nI n)), (2, .int (S 12 3)), (3, .int (nI (i + 1)))]) hX dB_liveMinutes_17 3 rfl (inc_nat _) (by decide) [1, 2, 3, 0] rfl ?_
      refine g_goto hX 7 dB_liveMinutes_20 (by decide) ?_
      have e_S : liveS nP (liveN nP S i) = liveN nP S (i + 1) := by rfl
      exact g_eq (by rw [e_S]) (rfl) rfl ih_i
  exact hL_7 0 (Nat.zero_le _)
set_option maxHeartbeats 4000000 in
set_option maxRecDepth 20000 in
theorem con_B_canPass (l : Launch) (Z : ZZ) (h : Nat) (q : Nat → Nat) (S : St) (x y : Int32) (nP nL : Nat) (hP : S 12 1 = nI nP) (hP5 : nP ≤ 5) (hL : S 12 0 = nI nL) (hL7 : nL ≤ 7) : Con l Z yB_canPass cB_canPass 3 (some .boolean) 1 [.ref h, .int x, .int y] (wB Z h q S) (Fn (some (.int (canPassS S x y))) (wB Z h q S)) := by
  refine Con.of (by decide) (Nat.le_of_ble_eq_true rfl) (fun X hX hQ => ?_)
  show G X Z (wB Z h q S) 0 [(0, .ref h), (1, .int x), (2, .int y)] []
  refine g_aload_n hX dB_canPass_0 0 rfl ?_
  refine g_iload_n hX dB_canPass_1 1 rfl ?_
  refine g_callV hX (con_B_hasPerson l Z h q S x) mvB_hasPerson q_351 rfl (by decide) 0 rfl rfl rfl (Nat.le_of_ble_eq_true rfl) dB_canPass_2 [0, 1, 2, 3, 4, 5, 6, 7, 8, 9, 10, 11, 12] rfl rfl (g_fn (ws1 := wB Z h q S) (st1 := [.int (hasPersonS S x)]) rfl rfl ?_)
  refine g_if_eq hX 25 dB_canPass_5 (by decide) (fun c_5 => ?_) (fun c_5 => ?_)
  · refine g_iconst (v := 0) hX dB_canPass_25 (by decide) ?_
    exact r_zret hX hQ (rfl) dB_canPass_26 rfl (⟨by simp [canPassS, c_5], rfl⟩)
  · obtain ⟨p, hp, rfl⟩ := hasP_of hP hP5 c_5
    refine g_aload_n hX dB_canPass_8 0 rfl ?_
    refine g_iload_n hX dB_canPass_9 2 rfl ?_
    refine g_callV hX (con_B_hasLock l Z h q S y) mvB_hasLock q_364 rfl (by decide) 0 rfl rfl rfl (Nat.le_of_ble_eq_true rfl) dB_canPass_10 [0, 1, 2, 3, 4, 5, 6, 7, 8, 9, 10, 11, 12] rfl rfl (g_fn (ws1 := wB Z h q S) (st1 := [.int (hasLockS S y)]) rfl rfl ?_)
    refine g_if_eq hX 25 dB_canPass_13 (by decide) (fun c_13 => ?_) (fun c_13 => ?_)
    · refine g_iconst (v := 0) hX dB_canPass_25 (by decide) ?_
      exact r_zret hX hQ (rfl) dB_canPass_26 rfl (⟨by simp [canPassS, nI_clamp (show p < 2 ^ 31 by omega), c_5, c_13], rfl⟩)
    · obtain ⟨k, hk, rfl⟩ := hasL_of hL hL7 c_13
      refine g_aload_n hX dB_canPass_16 0 rfl ?_
      refine g_get hX 0 rfl rfl 6 (by decide) uu_B q_47 rfl rfl dB_canPass_17 ?_
      refine g_iload_n hX dB_canPass_20 2 rfl ?_
      refine g_ald (v := (S 6 k)) hX 7 rfl k (by omega) (by decide) (rfl) (rfl) dB_canPass_21 ?_
      refine g_if_eq hX 27 dB_canPass_22 (by decide) (fun c_22 => ?_) (fun c_22 => ?_)
      · refine g_aload_n hX dB_canPass_27 0 rfl ?_
        refine g_get hX 0 rfl rfl 9 (by decide) uu_B q_54 rfl rfl dB_canPass_28 ?_
        refine g_iload_n hX dB_canPass_31 1 rfl ?_
        refine g_ald (v := (S 8 p)) hX 9 rfl p (by omega) (by decide) (rfl) (rfl) dB_canPass_32 ?_
        refine g_aload_n hX dB_canPass_33 0 rfl ?_
        refine g_get hX 0 rfl rfl 2 (by decide) uu_B q_36 rfl rfl dB_canPass_34 ?_
        refine g_iload_n hX dB_canPass_37 2 rfl ?_
        refine g_ald (v := (S 2 k)) hX 3 rfl k (by omega) (by decide) (rfl) (rfl) dB_canPass_38 ?_
        refine g_icmp_eq hX 57 dB_canPass_39 (by decide) (fun c_39 => ?_) (fun c_39 => ?_)
        · refine g_iconst (v := 1) hX dB_canPass_57 (by decide) ?_
          refine g_goto hX 62 dB_canPass_58 (by decide) ?_
          exact r_zret hX hQ (rfl) dB_canPass_62 rfl (⟨by simp [canPassS, nI_clamp (show p < 2 ^ 31 by omega), nI_clamp (show k < 2 ^ 31 by omega), c_5, c_13, c_22, c_39], rfl⟩)
        · refine g_aload_n hX dB_canPass_42 0 rfl ?_
          refine g_get hX 0 rfl rfl 9 (by decide) uu_B q_54 rfl rfl dB_canPass_43 ?_
          refine g_iload_n hX dB_canPass_46 1 rfl ?_
          refine g_ald (v := (S 8 p)) hX 9 rfl p (by omega) (by decide) (rfl) (rfl) dB_canPass_47 ?_
          refine g_aload_n hX dB_canPass_48 0 rfl ?_
          refine g_get hX 0 rfl rfl 3 (by decide) uu_B q_39 rfl rfl dB_canPass_49 ?_
          refine g_iload_n hX dB_canPass_52 2 rfl ?_
          refine g_ald (v := (S 3 k)) hX 4 rfl k (by omega) (by decide) (rfl) (rfl) dB_canPass_53 ?_
          refine g_icmp_ne hX 61 dB_canPass_54 (by decide) (fun c_54 => ?_) (fun c_54 => ?_)
          · refine g_iconst (v := 0) hX dB_canPass_61 (by decide) ?_
            exact r_zret hX hQ (rfl) dB_canPass_62 rfl (⟨by simp [canPassS, nI_clamp (show p < 2 ^ 31 by omega), nI_clamp (show k < 2 ^ 31 by omega), c_5, c_13, c_22, c_39, c_54], rfl⟩)
          · refine g_iconst (v := 1) hX dB_canPass_57 (by decide) ?_
            refine g_goto hX 62 dB_canPass_58 (by decide) ?_
            exact r_zret hX hQ (rfl) dB_canPass_62 rfl (⟨by simp [canPassS, nI_clamp (show p < 2 ^ 31 by omega), nI_clamp (show k < 2 ^ 31 by omega), c_5, c_13, c_22, c_39, c_54], rfl⟩)
      · refine g_iconst (v := 0) hX dB_canPass_25 (by decide) ?_
        exact r_zret hX hQ (rfl) dB_canPass_26 rfl (⟨by simp [canPassS, nI_clamp (show p < 2 ^ 31 by omega), nI_clamp (show k < 2 ^ 31 by omega), c_5, c_13, c_22], rfl⟩)
set_option maxHeartbeats 4000000 in
set_option maxRecDepth 20000 in
theorem con_B_airBehind (l : Launch) (Z : ZZ) (h : Nat) (q : Nat → Nat) (S : St) (lk n : Int32) (j : Nat) (hj : j < 6) (nP : Nat) (hP : S 12 1 = nI nP) (hP5 : nP ≤ 5) : Con l Z yB_airBehind cB_airBehind 4 (some .int) 2 [.ref h, .int (nI j), .int lk, .int n] (wB Z h q S) (Fn (some (.int (airBehindS S nP j lk n))) (wB Z h q S)) := by
  refine Con.of (by decide) (Nat.le_of_ble_eq_true rfl) (fun X hX hQ => ?_)
  show G X Z (wB Z h q S) 0 [(0, .ref h), (1, .int (nI j)), (2, .int lk), (3, .int n)] []
  refine g_iload_n hX dB_airBehind_0 1 rfl ?_
  refine g_callN hX (con_X_isRoom l Z (nI j)) msX_isRoom (fun U H hE => hE.1.2.1) rfl (by decide) rfl (Nat.le_of_ble_eq_true rfl) dB_airBehind_1 [] rfl rfl (g_fn (ws1 := wB Z h q S) (st1 := [.int (isRoomS (nI j))]) rfl rfl ?_)
  refine g_if_eq hX 30 dB_airBehind_4 (by decide) (fun c_4 => absurd c_4 (by rw [isRoom_yes hj]; decide)) (fun c_4 => ?_)
  refine g_iconst (v := 0) hX dB_airBehind_7 (by decide) ?_
  refine g_aload_n hX dB_airBehind_8 0 rfl ?_
  refine g_get hX 0 rfl rfl 0 (by decide) uu_B q_32 rfl rfl dB_airBehind_9 ?_
  refine g_iload_n hX dB_airBehind_12 1 rfl ?_
  refine g_ald (v := (S 0 j)) hX 1 rfl j (by omega) (by decide) (rfl) (rfl) dB_airBehind_13 ?_
  refine g_iload_n hX dB_airBehind_14 3 rfl ?_
  refine g_iload_n hX dB_airBehind_15 2 rfl ?_
  refine g_aload_n hX dB_airBehind_16 0 rfl ?_
  refine g_iload_n hX dB_airBehind_17 1 rfl ?_
  refine g_callV hX (con_B_breathIn l Z h q S (nI j) nP hP hP5) mvB_breathIn q_378 rfl (by decide) 0 rfl rfl rfl (Nat.le_of_ble_eq_true rfl) dB_airBehind_18 [0, 1, 2, 3, 4, 5, 6, 7, 8, 9, 10, 11, 12] rfl rfl (g_fn (ws1 := wB Z h q S) (st1 := [.int (breathInS S nP (nI j)), .int lk, .int n, .int (S 0 j), .int 0]) rfl rfl ?_)
  refine g_iadd (z := (lk + (breathInS S nP (nI j)))) hX dB_airBehind_21 (rfl) ?_
  refine g_imul (z := (n * (lk + (breathInS S nP (nI j))))) hX dB_airBehind_22 (rfl) ?_
  refine g_isub (z := ((S 0 j) - (n * (lk + (breathInS S nP (nI j)))))) hX dB_airBehind_23 (rfl) ?_
  refine g_mmax (z := (mx 0 ((S 0 j) - (n * (lk + (breathInS S nP (nI j))))))) hX q_300 q_301 q_12 q_302 dB_airBehind_24 (by decide) (Nat.le_of_ble_eq_true rfl) (rfl) ?_
  refine g_goto hX 31 dB_airBehind_27 (by decide) ?_
  exact r_iret hX hQ dB_airBehind_31 rfl (⟨rfl, rfl⟩)
set_option maxHeartbeats 4000000 in
set_option maxRecDepth 20000 in
theorem con_B_goThrough (l : Launch) (Z : ZZ) (h : Nat) (q : Nat → Nat) (S : St) (p k c9 nP nL : Nat) (hp : p < nP) (hk : k < nL) (hcan : canPassS S (nI p) (nI k) = 1) (hc : S 5 k = nI c9) (hc9 : c9 < 2 ^ 31) (hP : S 12 1 = nI nP) (hP5 : nP ≤ 5) (hL : S 12 0 = nI nL) (hL7 : nL ≤ 7) : Con l Z yB_goThrough cB_goThrough 4 none 4 [.ref h, .int (nI p), .int (nI k)] (wB Z h q S) (Fn none (wB Z h q (goS nP S p k))) := by
  refine Con.of (by decide) (Nat.le_of_ble_eq_true rfl) (fun X hX hQ => ?_)
  show G X Z (wB Z h q S) 0 [(0, .ref h), (1, .int (nI p)), (2, .int (nI k))] []
  refine g_aload_n hX dB_goThrough_0 0 rfl ?_
  refine g_iload_n hX dB_goThrough_1 1 rfl ?_
  refine g_iload_n hX dB_goThrough_2 2 rfl ?_
  refine g_callV hX (con_B_canPass l Z h q S (nI p) (nI k) nP nL hP hP5 hL hL7) mvB_canPass q_369 rfl (by decide) 0 rfl rfl rfl (Nat.le_of_ble_eq_true rfl) dB_goThrough_3 [0, 1, 2, 3, 4, 5, 6, 7, 8, 9, 10, 11, 12] rfl rfl (g_fn (ws1 := wB Z h q S) (st1 := [.int (canPassS S (nI p) (nI k))]) rfl rfl ?_)
  refine g_if_ne hX 10 dB_goThrough_6 (by decide) (fun c_6 => ?_) (fun c_6 => absurd c_6 (by rw [hcan]; decide))
  refine g_aload_n hX dB_goThrough_10 0 rfl ?_
  refine g_get hX 0 rfl rfl 2 (by decide) uu_B q_36 rfl rfl dB_goThrough_11 ?_
  refine g_iload_n hX dB_goThrough_14 2 rfl ?_
  refine g_ald (v := (S 2 k)) hX 3 rfl k (by omega) (by decide) (rfl) (rfl) dB_goThrough_15 ?_
  refine g_istore_n (lv1 := [(0, .ref h), (1, .int (nI p)), (2, .int (nI k)), (3, .int (S 2 k))]) hX dB_goThrough_16 (by decide) [1, 2, 3, 0] rfl ?_
  refine g_aload_n hX dB_goThrough_17 0 rfl ?_
  refine g_get hX 0 rfl rfl 9 (by decide) uu_B q_54 rfl rfl dB_goThrough_18 ?_
  refine g_iload_n hX dB_goThrough_21 1 rfl ?_
  refine g_aload_n hX dB_goThrough_22 0 rfl ?_
  refine g_get hX 0 rfl rfl 9 (by decide) uu_B q_54 rfl rfl dB_goThrough_23 ?_
  refine g_iload_n hX dB_goThrough_26 1 rfl ?_
  refine g_ald (v := (S 8 p)) hX 9 rfl p (by omega) (by decide) (rfl) (rfl) dB_goThrough_27 ?_
  refine g_iload_n hX dB_goThrough_28 3 rfl ?_
  have hJ_42 : G X Z (wB Z h q S) 42 [(0, .ref h), (1, .int (nI p)), (2, .int (nI k)), (3, .int (S 2 k))] [.int (if S 8 p = S 2 k then S 3 k else S 2 k), .int (nI p), .ref (q 8)] := by
    refine g_ast (ws1 := wB Z h q (sw S 8 p (if S 8 p = S 2 k then S 3 k else S 2 k))) hX 9 rfl p (by omega) (by decide) (rfl) dB_goThrough_42 rfl ?_
    refine g_aload_n hX dB_goThrough_43 0 rfl ?_
    refine g_get hX 0 rfl rfl 3 (by decide) uu_B q_39 rfl rfl dB_goThrough_44 ?_
    refine g_iload_n hX dB_goThrough_47 2 rfl ?_
    refine g_ald (v := ((sw S 8 p (if S 8 p = S 2 k then S 3 k else S 2 k)) 3 k)) hX 4 rfl k (by omega) (by decide) (rfl) (rfl) dB_goThrough_48 ?_
    refine g_bipush (v := 6) hX dB_goThrough_49 (by decide) ?_
    refine g_icmp_ne hX 84 dB_goThrough_51 (by decide) (fun c_51 => ?_) (fun c_51 => ?_)
    · refine g_aload_n hX dB_goThrough_84 0 rfl ?_
      refine g_aload_n hX dB_goThrough_85 0 rfl ?_
      refine g_get hX 0 rfl rfl 5 (by decide) uu_B q_44 rfl rfl dB_goThrough_86 ?_
      refine g_iload_n hX dB_goThrough_89 2 rfl ?_
      refine g_ald (v := (nI c9)) hX 6 rfl k (by omega) (by decide) (rfl) (by first | exact hc | (simp [sw]; exact hc)) dB_goThrough_90 ?_
      refine g_callV hX (con_B_liveMinutes l Z h q (sw S 8 p (if S 8 p = S 2 k then S 3 k else S 2 k)) c9 hc9 nP (by first | exact hP | simpa [lmA_12, lmB_12, liveS_12, liveN_12, sw] using hP) hP5) mvB_liveMinutes q_370 rfl (by decide) 0 rfl rfl rfl (Nat.le_of_ble_eq_true rfl) dB_goThrough_91 [0, 1, 2, 3, 4, 5, 6, 7, 8, 9, 10, 11, 12] rfl rfl (g_fn (ws1 := wB Z h q (liveN nP (sw S 8 p (if S 8 p = S 2 k then S 3 k else S 2 k)) c9)) (st1 := [.int (liveN nP (sw S 8 p (if S 8 p = S 2 k then S 3 k else S 2 k)) c9 12 3 - (sw S 8 p (if S 8 p = S 2 k then S 3 k else S 2 k)) 12 3)]) rfl rfl ?_)
      refine g_pop hX dB_goThrough_94 rfl ?_
      exact r_vret hX hQ dB_goThrough_95 rfl (⟨rfl, congrArg (wB Z h q) (goS_eq hc hc9 (goB_1 c_51))⟩)
    · refine g_iload_n hX dB_goThrough_54 3 rfl ?_
      refine g_callN hX (con_X_isRoom l Z (S 2 k)) msX_isRoom (fun U H hE => hE.1.2.1) rfl (by decide) rfl (Nat.le_of_ble_eq_true rfl) dB_goThrough_55 [] rfl rfl (g_fn (ws1 := wB Z h q (sw S 8 p (if S 8 p = S 2 k then S 3 k else S 2 k))) (st1 := [.int (isRoomS (S 2 k))]) rfl rfl ?_)
      refine g_if_eq hX 84 dB_goThrough_58 (by decide) (fun c_58 => ?_) (fun c_58 => ?_)
      · refine g_aload_n hX dB_goThrough_84 0 rfl ?_
        refine g_aload_n hX dB_goThrough_85 0 rfl ?_
        refine g_get hX 0 rfl rfl 5 (by decide) uu_B q_44 rfl rfl dB_goThrough_86 ?_
        refine g_iload_n hX dB_goThrough_89 2 rfl ?_
        refine g_ald (v := (nI c9)) hX 6 rfl k (by omega) (by decide) (rfl) (by first | exact hc | (simp [sw]; exact hc)) dB_goThrough_90 ?_
        refine g_callV hX (con_B_liveMinutes l Z h q (sw S 8 p (if S 8 p = S 2 k then S 3 k else S 2 k)) c9 hc9 nP (by first | exact hP | simpa [lmA_12, lmB_12, liveS_12, liveN_12, sw] using hP) hP5) mvB_liveMinutes q_370 rfl (by decide) 0 rfl rfl rfl (Nat.le_of_ble_eq_true rfl) dB_goThrough_91 [0, 1, 2, 3, 4, 5, 6, 7, 8, 9, 10, 11, 12] rfl rfl (g_fn (ws1 := wB Z h q (liveN nP (sw S 8 p (if S 8 p = S 2 k then S 3 k else S 2 k)) c9)) (st1 := [.int (liveN nP (sw S 8 p (if S 8 p = S 2 k then S 3 k else S 2 k)) c9 12 3 - (sw S 8 p (if S 8 p = S 2 k then S 3 k else S 2 k)) 12 3)]) rfl rfl ?_)
        refine g_pop hX dB_goThrough_94 rfl ?_
        exact r_vret hX hQ dB_goThrough_95 rfl (⟨rfl, congrArg (wB Z h q) (goS_eq hc hc9 (goB_2 c_51 c_58))⟩)
      · obtain ⟨r, hr6, hr⟩ := isRoom_of c_58
        refine g_aload_n hX dB_goThrough_61 0 rfl ?_
        refine g_get hX 0 rfl rfl 0 (by decide) uu_B q_32 rfl rfl dB_goThrough_62 ?_
        refine g_iload_n hX dB_goThrough_65 3 rfl ?_
        refine g_iconst (v := 0) hX dB_goThrough_66 (by decide) ?_
        refine g_aload_n hX dB_goThrough_67 0 rfl ?_
        refine g_get hX 0 rfl rfl 0 (by decide) uu_B q_32 rfl rfl dB_goThrough_68 ?_
        refine g_iload_n hX dB_goThrough_71 3 rfl ?_
        refine g_ald (v := ((sw S 8 p (if S 8 p = S 2 k then S 3 k else S 2 k)) 0 r)) hX 1 rfl r (hr6) (by decide) (hr) (rfl) dB_goThrough_72 ?_
        refine g_aload_n hX dB_goThrough_73 0 rfl ?_
        refine g_get hX 0 rfl rfl 4 (by decide) uu_B q_42 rfl rfl dB_goThrough_74 ?_
        refine g_iload_n hX dB_goThrough_77 2 rfl ?_
        refine g_ald (v := ((sw S 8 p (if S 8 p = S 2 k then S 3 k else S 2 k)) 4 k)) hX 5 rfl k (by omega) (by decide) (rfl) (rfl) dB_goThrough_78 ?_
        refine g_isub (z := (((sw S 8 p (if S 8 p = S 2 k then S 3 k else S 2 k)) 0 r) - ((sw S 8 p (if S 8 p = S 2 k then S 3 k else S 2 k)) 4 k))) hX dB_goThrough_79 (rfl) ?_
        refine g_mmax (z := (mx 0 (((sw S 8 p (if S 8 p = S 2 k then S 3 k else S 2 k)) 0 r) - ((sw S 8 p (if S 8 p = S 2 k then S 3 k else S 2 k)) 4 k)))) hX q_300 q_301 q_12 q_302 dB_goThrough_80 (by decide) (Nat.le_of_ble_eq_true rfl) (rfl) ?_
        refine g_ast (ws1 := wB Z h q (sw (sw S 8 p (if S 8 p = S 2 k then S 3 k else S 2 k)) 0 r (mx 0 (((sw S 8 p (if S 8 p = S 2 k then S 3 k else S 2 k)) 0 r) - ((sw S 8 p (if S 8 p = S 2 k then S 3 k else S 2 k)) 4 k))))) hX 1 rfl r (hr6) (by decide) (hr) dB_goThrough_83 rfl ?_
        refine g_aload_n hX dB_goThrough_84 0 rfl ?_
        refine g_aload_n hX dB_goThrough_85 0 rfl ?_
        refine g_get hX 0 rfl rfl 5 (by decide) uu_B q_44 rfl rfl dB_goThrough_86 ?_
        refine g_iload_n hX dB_goThrough_89 2 rfl ?_
        refine g_ald (v := (nI c9)) hX 6 rfl k (by omega) (by decide) (rfl) (by first | exact hc | (simp [sw]; exact hc)) dB_goThrough_90 ?_
        refine g_callV hX (con_B_liveMinutes l Z h q (sw (sw S 8 p (if S 8 p = S 2 k then S 3 k else S 2 k)) 0 r (mx 0 (((sw S 8 p (if S 8 p = S 2 k then S 3 k else S 2 k)) 0 r) - ((sw S 8 p (if S 8 p = S 2 k then S 3 k else S 2 k)) 4 k)))) c9 hc9 nP (by first | exact hP | simpa [lmA_12, lmB_12, liveS_12, liveN_12, sw] using hP) hP5) mvB_liveMinutes q_370 rfl (by decide) 0 rfl rfl rfl (Nat.le_of_ble_eq_true rfl) dB_goThrough_91 [0, 1, 2, 3, 4, 5, 6, 7, 8, 9, 10, 11, 12] rfl rfl (g_fn (ws1 := wB Z h q (liveN nP (sw (sw S 8 p (if S 8 p = S 2 k then S 3 k else S 2 k)) 0 r (mx 0 (((sw S 8 p (if S 8 p = S 2 k then S 3 k else S 2 k)) 0 r) - ((sw S 8 p (if S 8 p = S 2 k then S 3 k else S 2 k)) 4 k)))) c9)) (st1 := [.int (liveN nP (sw (sw S 8 p (if S 8 p = S 2 k then S 3 k else S 2 k)) 0 r (mx 0 (((sw S 8 p (if S 8 p = S 2 k then S 3 k else S 2 k)) 0 r) - ((sw S 8 p (if S 8 p = S 2 k then S 3 k else S 2 k)) 4 k)))) c9 12 3 - (sw (sw S 8 p (if S 8 p = S 2 k then S 3 k else S 2 k)) 0 r (mx 0 (((sw S 8 p (if S 8 p = S 2 k then S 3 k else S 2 k)) 0 r) - ((sw S 8 p (if S 8 p = S 2 k then S 3 k else S 2 k)) 4 k)))) 12 3)]) rfl rfl ?_)
        refine g_pop hX dB_goThrough_94 rfl ?_
        exact r_vret hX hQ dB_goThrough_95 rfl (⟨rfl, congrArg (wB Z h q) (goS_eq hc hc9 (goB_3 c_51 c_58 hr6 hr))⟩)
  refine g_icmp_ne hX 41 dB_goThrough_29 (by decide) (fun c_29 => ?_) (fun c_29 => ?_)
  · refine g_iload_n hX dB_goThrough_41 3 rfl ?_
    refine g_top (y := (if S 8 p = S 2 k then S 3 k else S 2 k)) (by simp [*]) ?_
    exact hJ_42
  · refine g_aload_n hX dB_goThrough_32 0 rfl ?_
    refine g_get hX 0 rfl rfl 3 (by decide) uu_B q_39 rfl rfl dB_goThrough_33 ?_
    refine g_iload_n hX dB_goThrough_36 2 rfl ?_
    refine g_ald (v := (S 3 k)) hX 4 rfl k (by omega) (by decide) (rfl) (rfl) dB_goThrough_37 ?_
    refine g_goto hX 42 dB_goThrough_38 (by decide) ?_
    refine g_top (y := (if S 8 p = S 2 k then S 3 k else S 2 k)) (by simp [*]) ?_
    exact hJ_42
