/-! the Model: passing -/
theorem canP_M {S : St} {p g nP nL : Nat} (hP : S 12 1 = nI nP) (hP5 : nP ≤ 5) (hL : S 12 0 = nI nL) (hL8 : nL ≤ 8) (hp : p < nP) (hg : g < nL) : canPassS S (nI p) (nI g) = if ¬ S 6 g = 0 then 0 else if S 8 p = S 2 g then 1 else if S 8 p = S 3 g then 1 else 0 := by
  have h1 : ¬ hasPersonS S (nI p) = 0 := by
    unfold hasPersonS
    rw [if_neg (nI_pos (by omega)), hP, if_neg (nI_ge hp (by omega))]
    decide
  have h2 : ¬ hasLockS S (nI g) = 0 := by
    unfold hasLockS
    rw [if_neg (nI_pos (by omega)), hL, if_neg (nI_ge hg (by omega))]
    decide
  unfold canPassS
  rw [if_neg h1, if_neg h2, show cl (nI p) = p from nI_clamp (by omega), show cl (nI g) = g from nI_clamp (by omega)]
theorem pl_eq {S : St} {p g : Nat} (h : S 8 p = S 2 g ∨ S 8 p = S 3 g) : S 2 g + S 3 g - S 8 p = if S 8 p = S 2 g then S 3 g else S 2 g := by
  by_cases e : S 8 p = S 2 g
  · rw [if_pos e, e, Int32.add_comm, Int32.add_sub_cancel]
  · rw [if_neg e, h.resolve_left e, Int32.add_sub_cancel]
theorem gm_1 {S : St} {p g : Nat} (hp : S 8 p = S 2 g ∨ S 8 p = S 3 g) (h : ¬ S 3 g = 6) : sw S 8 p (S 2 g + S 3 g - S 8 p) = goB S p g := by rw [goB_1 h, pl_eq hp]
theorem gm_3 {S : St} {p g r : Nat} (hp : S 8 p = S 2 g ∨ S 8 p = S 3 g) (h : S 3 g = 6) (hr6 : r < 6) (hr : S 2 g = nI r) : sw (sw S 8 p (S 2 g + S 3 g - S 8 p)) 0 r (mx 0 (S 0 r - S 4 g)) = goB S p g := by
  rw [goB_3 h (by rw [hr, isRoom_yes hr6]; decide) hr6 hr, pl_eq hp]
theorem goS_c {nP : Nat} {S : St} {p g c9 : Nat} (hc : S 5 g = nI c9) (hc9 : c9 < 2 ^ 31) : liveN nP (goB S p g) c9 = goS nP S p g := goS_eq hc hc9 rfl
theorem canP_at {S : St} {x y : Int32} (h : canPassS S x y = 1) : S 8 (cl x) = S 2 (cl y) ∨ S 8 (cl x) = S 3 (cl y) := by
  unfold canPassS at h
  repeat' split at h
  all_goals first | exact absurd h (by decide) | skip
  · next q => exact Or.inl q
  · next q => exact Or.inr q
set_option maxHeartbeats 4000000 in
set_option maxRecDepth 20000 in
theorem con_M_canPass (l : Launch) (Z : ZZ) (h : Nat) (q : Nat → Nat) (S : St) (p g : Nat) (nP : Nat) (hP : S 12 1 = nI nP) (hP5 : nP ≤ 5) (nL : Nat) (hL : S 12 0 = nI nL) (hL8 : nL ≤ 8) (hp : p < nP) (hg : g < nL) : Con l Z yM_canPass cM_canPass 3 (some .boolean) 0 [.ref h, .int (nI p), .int (nI g)] (wM Z h q S) (Fn (some (.int (canPassS S (nI p) (nI g)))) (wM Z h q S)) := by
  refine Con.of (by decide) (Nat.le_of_ble_eq_true rfl) (fun X hX hQ => ?_)
  show G X Z (wM Z h q S) 0 [(0, .ref h), (1, .int (nI p)), (2, .int (nI g))] []
  refine g_aload_n hX dM_canPass_0 0 rfl ?_
  refine g_get hX 0 rfl rfl 7 (by decide) uu_M q_591 rfl rfl dM_canPass_1 ?_
  refine g_iload_n hX dM_canPass_4 2 rfl ?_
  refine g_ald (v := (S 6 g)) hX 7 rfl g (by omega) (by decide) (rfl) (rfl) dM_canPass_5 ?_
  refine g_if_ne hX 43 dM_canPass_6 (by decide) (fun c_6 => ?_) (fun c_6 => ?_)
  · refine g_iconst (v := 0) hX dM_canPass_43 (by decide) ?_
    exact r_zret hX hQ (rfl) dM_canPass_44 keysM (⟨by rw [canP_M hP hP5 hL hL8 hp hg]; simp [*], rfl⟩)
  · refine g_aload_n hX dM_canPass_9 0 rfl ?_
    refine g_get hX 0 rfl rfl 10 (by decide) uu_M q_594 rfl rfl dM_canPass_10 ?_
    refine g_iload_n hX dM_canPass_13 1 rfl ?_
    refine g_ald (v := (S 8 p)) hX 9 rfl p (by omega) (by decide) (rfl) (rfl) dM_canPass_14 ?_
    refine g_aload_n hX dM_canPass_15 0 rfl ?_
    refine g_get hX 0 rfl rfl 3 (by decide) uu_M q_587 rfl rfl dM_canPass_16 ?_
    refine g_iload_n hX dM_canPass_19 2 rfl ?_
    refine g_ald (v := (S 2 g)) hX 3 rfl g (by omega) (by decide) (rfl) (rfl) dM_canPass_20 ?_
    refine g_icmp_eq hX 39 dM_canPass_21 (by decide) (fun c_21 => ?_) (fun c_21 => ?_)
    · refine g_iconst (v := 1) hX dM_canPass_39 (by decide) ?_
      refine g_goto hX 44 dM_canPass_40 (by decide) ?_
      exact r_zret hX hQ (rfl) dM_canPass_44 keysM (⟨by rw [canP_M hP hP5 hL hL8 hp hg]; simp [*], rfl⟩)
    · refine g_aload_n hX dM_canPass_24 0 rfl ?_
      refine g_get hX 0 rfl rfl 10 (by decide) uu_M q_594 rfl rfl dM_canPass_25 ?_
      refine g_iload_n hX dM_canPass_28 1 rfl ?_
      refine g_ald (v := (S 8 p)) hX 9 rfl p (by omega) (by decide) (rfl) (rfl) dM_canPass_29 ?_
      refine g_aload_n hX dM_canPass_30 0 rfl ?_
      refine g_get hX 0 rfl rfl 4 (by decide) uu_M q_588 rfl rfl dM_canPass_31 ?_
      refine g_iload_n hX dM_canPass_34 2 rfl ?_
      refine g_ald (v := (S 3 g)) hX 4 rfl g (by omega) (by decide) (rfl) (rfl) dM_canPass_35 ?_
      refine g_icmp_ne hX 43 dM_canPass_36 (by decide) (fun c_36 => ?_) (fun c_36 => ?_)
      · refine g_iconst (v := 0) hX dM_canPass_43 (by decide) ?_
        exact r_zret hX hQ (rfl) dM_canPass_44 keysM (⟨by rw [canP_M hP hP5 hL hL8 hp hg]; simp [*], rfl⟩)
      · refine g_iconst (v := 1) hX dM_canPass_39 (by decide) ?_
        refine g_goto hX 44 dM_canPass_40 (by decide) ?_
        exact r_zret hX hQ (rfl) dM_canPass_44 keysM (⟨by rw [canP_M hP hP5 hL hL8 hp hg]; simp [*], rfl⟩)
set_option maxHeartbeats 4000000 in
set_option maxRecDepth 20000 in
theorem con_M_pass (l : Launch) (Z : ZZ) (h : Nat) (q : Nat → Nat) (S : St) (p g c9 : Nat) (nP : Nat) (hP : S 12 1 = nI nP) (hP5 : nP ≤ 5) (nL : Nat) (hL : S 12 0 = nI nL) (hL8 : nL ≤ 8) (hp : p < nP) (hg : g < nL) (hpc : S 8 p = S 2 g ∨ S 8 p = S 3 g) (hor : S 3 g = 6 → ∃ r, r < 6 ∧ S 2 g = nI r) (hc : S 5 g = nI c9) (hc9 : c9 < 2 ^ 31) (hVB : Vd (goB S p g) nP) : Con l Z yM_pass cM_pass 3 (some .int) 4 [.ref h, .int (nI p), .int (nI g)] (wM Z h q S) (Fn (some (.int (goS nP S p g 12 3 - S 12 3))) (wM Z h q (goS nP S p g))) := by
  refine Con.of (by decide) (Nat.le_of_ble_eq_true rfl) (fun X hX hQ => ?_)
  show G X Z (wM Z h q S) 0 [(0, .ref h), (1, .int (nI p)), (2, .int (nI g))] []
  refine g_aload_n hX dM_pass_0 0 rfl ?_
  refine g_get hX 0 rfl rfl 10 (by decide) uu_M q_594 rfl rfl dM_pass_1 ?_
  refine g_iload_n hX dM_pass_4 1 rfl ?_
  refine g_aload_n hX dM_pass_5 0 rfl ?_
  refine g_get hX 0 rfl rfl 3 (by decide) uu_M q_587 rfl rfl dM_pass_6 ?_
  refine g_iload_n hX dM_pass_9 2 rfl ?_
  refine g_ald (v := (S 2 g)) hX 3 rfl g (by omega) (by decide) (rfl) (rfl) dM_pass_10 ?_
  refine g_aload_n hX dM_pass_11 0 rfl ?_
  refine g_get hX 0 rfl rfl 4 (by decide) uu_M q_588 rfl rfl dM_pass_12 ?_
  refine g_iload_n hX dM_pass_15 2 rfl ?_
  refine g_ald (v := (S 3 g)) hX 4 rfl g (by omega) (by decide) (rfl) (rfl) dM_pass_16 ?_
  refine g_iadd (z := ((S 2 g) + (S 3 g))) hX dM_pass_17 (rfl) ?_
  refine g_aload_n hX dM_pass_18 0 rfl ?_
  refine g_get hX 0 rfl rfl 10 (by decide) uu_M q_594 rfl rfl dM_pass_19 ?_
  refine g_iload_n hX dM_pass_22 1 rfl ?_
  refine g_ald (v := (S 8 p)) hX 9 rfl p (by omega) (by decide) (rfl) (rfl) dM_pass_23 ?_
  refine g_isub (z := (((S 2 g) + (S 3 g)) - (S 8 p))) hX dM_pass_24 (rfl) ?_
  refine g_ast (ws1 := wM Z h q (sw S 8 p (((S 2 g) + (S 3 g)) - (S 8 p)))) hX 9 rfl p (by omega) (by decide) (rfl) dM_pass_25 (setM_S_8 Z h q S p (((S 2 g) + (S 3 g)) - (S 8 p))) ?_
  refine g_aload_n hX dM_pass_26 0 rfl ?_
  refine g_get hX 0 rfl rfl 4 (by decide) uu_M q_588 rfl rfl dM_pass_27 ?_
  refine g_iload_n hX dM_pass_30 2 rfl ?_
  refine g_ald (v := ((sw S 8 p (((S 2 g) + (S 3 g)) - (S 8 p))) 3 g)) hX 4 rfl g (by omega) (by decide) (rfl) (rfl) dM_pass_31 ?_
  refine g_bipush (v := 6) hX dM_pass_32 (by decide) ?_
  refine g_icmp_ne hX 70 dM_pass_34 (by decide) (fun c_34 => ?_) (fun c_34 => ?_)
  · refine g_eq (ws1 := wM Z h q (goB S p g)) (congrArg (wM Z h q) (gm_1 hpc c_34)) rfl rfl ?_
    refine g_aload_n hX dM_pass_70 0 rfl ?_
    refine g_aload_n hX dM_pass_71 0 rfl ?_
    refine g_get hX 0 rfl rfl 6 (by decide) uu_M q_590 rfl rfl dM_pass_72 ?_
    refine g_iload_n hX dM_pass_75 2 rfl ?_
    refine g_ald (v := (nI c9)) hX 6 rfl g (by omega) (by decide) (rfl) (by rw [goB_row S p g (by decide) (by decide)]; exact hc) dM_pass_76 ?_
    refine g_callV hX (con_M_goBy l Z h q (goB S p g) c9 hc9 nP (by rw [goB_row S p g (by decide) (by decide)]; exact hP) hP5 hVB) mvM_goBy q_824 rfl (by decide) 0 rfl rfl rfl (Nat.le_of_ble_eq_true rfl) dM_pass_77 [0, 1, 2, 3, 4, 5, 6, 7, 8, 9, 10, 11, 12, 13, 14, 15, 16, 17, 18, 19, 20, 21] rfl (subM_all Z h q (goB S p g)) (g_fn (ws1 := wM Z h q (liveN nP (goB S p g) c9)) (st1 := [.int (liveN nP (goB S p g) c9 12 3 - (goB S p g) 12 3)]) (putM_all Z h q (goB S p g) (liveN nP (goB S p g) c9)) rfl ?_)
    exact r_iret hX hQ dM_pass_80 keysM (⟨by rw [goS_c hc hc9, goB_row S p g (by decide) (by decide)], congrArg (wM Z h q) (goS_c hc hc9)⟩)
  · obtain ⟨r, hr6, hr⟩ := hor c_34
    refine g_aload_n hX dM_pass_37 0 rfl ?_
    refine g_get hX 0 rfl rfl 0 (by decide) uu_M q_584 rfl rfl dM_pass_38 ?_
    refine g_aload_n hX dM_pass_41 0 rfl ?_
    refine g_get hX 0 rfl rfl 3 (by decide) uu_M q_587 rfl rfl dM_pass_42 ?_
    refine g_iload_n hX dM_pass_45 2 rfl ?_
    refine g_ald (v := ((sw S 8 p (((S 2 g) + (S 3 g)) - (S 8 p))) 2 g)) hX 3 rfl g (by omega) (by decide) (rfl) (rfl) dM_pass_46 ?_
    refine g_iconst (v := 0) hX dM_pass_47 (by decide) ?_
    refine g_aload_n hX dM_pass_48 0 rfl ?_
    refine g_get hX 0 rfl rfl 0 (by decide) uu_M q_584 rfl rfl dM_pass_49 ?_
    refine g_aload_n hX dM_pass_52 0 rfl ?_
    refine g_get hX 0 rfl rfl 3 (by decide) uu_M q_587 rfl rfl dM_pass_53 ?_
    refine g_iload_n hX dM_pass_56 2 rfl ?_
    refine g_ald (v := ((sw S 8 p (((S 2 g) + (S 3 g)) - (S 8 p))) 2 g)) hX 3 rfl g (by omega) (by decide) (rfl) (rfl) dM_pass_57 ?_
    refine g_ald (v := ((sw S 8 p (((S 2 g) + (S 3 g)) - (S 8 p))) 0 r)) hX 1 rfl r (hr6) (by decide) (hr) (rfl) dM_pass_58 ?_
    refine g_aload_n hX dM_pass_59 0 rfl ?_
    refine g_get hX 0 rfl rfl 5 (by decide) uu_M q_589 rfl rfl dM_pass_60 ?_
    refine g_iload_n hX dM_pass_63 2 rfl ?_
    refine g_ald (v := ((sw S 8 p (((S 2 g) + (S 3 g)) - (S 8 p))) 4 g)) hX 5 rfl g (by omega) (by decide) (rfl) (rfl) dM_pass_64 ?_
    refine g_isub (z := (((sw S 8 p (((S 2 g) + (S 3 g)) - (S 8 p))) 0 r) - ((sw S 8 p (((S 2 g) + (S 3 g)) - (S 8 p))) 4 g))) hX dM_pass_65 (rfl) ?_
    refine g_mmax (z := (mx 0 (((sw S 8 p (((S 2 g) + (S 3 g)) - (S 8 p))) 0 r) - ((sw S 8 p (((S 2 g) + (S 3 g)) - (S 8 p))) 4 g)))) hX q_705 q_301 q_12 q_302 dM_pass_66 (by decide) (Nat.le_of_ble_eq_true rfl) (rfl) ?_
    refine g_ast (ws1 := wM Z h q (sw (sw S 8 p (((S 2 g) + (S 3 g)) - (S 8 p))) 0 r (mx 0 (((sw S 8 p (((S 2 g) + (S 3 g)) - (S 8 p))) 0 r) - ((sw S 8 p (((S 2 g) + (S 3 g)) - (S 8 p))) 4 g))))) hX 1 rfl r (hr6) (by decide) (hr) dM_pass_69 (setM_S_0 Z h q (sw S 8 p (((S 2 g) + (S 3 g)) - (S 8 p))) r (mx 0 (((sw S 8 p (((S 2 g) + (S 3 g)) - (S 8 p))) 0 r) - ((sw S 8 p (((S 2 g) + (S 3 g)) - (S 8 p))) 4 g)))) ?_
    refine g_eq (ws1 := wM Z h q (goB S p g)) (congrArg (wM Z h q) (gm_3 hpc c_34 hr6 hr)) rfl rfl ?_
    refine g_aload_n hX dM_pass_70 0 rfl ?_
    refine g_aload_n hX dM_pass_71 0 rfl ?_
    refine g_get hX 0 rfl rfl 6 (by decide) uu_M q_590 rfl rfl dM_pass_72 ?_
    refine g_iload_n hX dM_pass_75 2 rfl ?_
    refine g_ald (v := (nI c9)) hX 6 rfl g (by omega) (by decide) (rfl) (by rw [goB_row S p g (by decide) (by decide)]; exact hc) dM_pass_76 ?_
    refine g_callV hX (con_M_goBy l Z h q (goB S p g) c9 hc9 nP (by rw [goB_row S p g (by decide) (by decide)]; exact hP) hP5 hVB) mvM_goBy q_824 rfl (by decide) 0 rfl rfl rfl (Nat.le_of_ble_eq_true rfl) dM_pass_77 [0, 1, 2, 3, 4, 5, 6, 7, 8, 9, 10, 11, 12, 13, 14, 15, 16, 17, 18, 19, 20, 21] rfl (subM_all Z h q (goB S p g)) (g_fn (ws1 := wM Z h q (liveN nP (goB S p g) c9)) (st1 := [.int (liveN nP (goB S p g) c9 12 3 - (goB S p g) 12 3)]) (putM_all Z h q (goB S p g) (liveN nP (goB S p g) c9)) rfl ?_)
    exact r_iret hX hQ dM_pass_80 keysM (⟨by rw [goS_c hc hc9, goB_row S p g (by decide) (by decide)], congrArg (wM Z h q) (goS_c hc hc9)⟩)
