/-! the Model: passing -/
theorem canP_M {S : St} {p g nP nL : Nat} (hP : S 12 1 = nI nP) (hP5 : nP ≤ 5) (hL : S 12 0 = nI nL) (hL8 : nL ≤ 8) (hp : p < nP) (hg : g < nL) : canPassS S (nI p) (nI g) = if ¬ S 6 g = 0 then 0 else if S 8 p = S 2 g then 1 else if S 8 p = S 3 g then 1 else 0 := by
  have h1 : ¬ hasPersonS S (nI p) = 0 := by
    unfold hasPersonS
    rw [if_neg (nI_pos (by omega)), hP, if_neg (nI_ge hp (by omega))]
    decide
  have h2 : ¬ hasLockS S (nI g) = 0 := by
    unfold hasLockS
    rw [if_neg (nI_pos (by omega)), hL, if_neg (nI_ge hg (by omega))]
    decide
  unfold canPassS
  rw [if_neg h1, if_neg h2, show cl (nI p) = p from nI_clamp (by omega), show cl (nI g) = g from nI_clamp (by omega)]
set_option maxHeartbeats 4000000 in
set_option maxRecDepth 20000 in
theorem con_M_canPass (l : Launch) (Z : ZZ) (h : Nat) (q : Nat → Nat) (S : St) (p g : Nat) (nP : Nat) (hP : S 12 1 = nI nP) (hP5 : nP ≤ 5) (nL : Nat) (hL : S 12 0 = nI nL) (hL8 : nL ≤ 8) (hp : p < nP) (hg : g < nL) : Con l Z yM_canPass cM_canPass 3 (some .boolean) 0 [.ref h, .int (nI p), .int (nI g)] (wM Z h q S) (Fn (some (.int (canPassS S (nI p) (nI g)))) (wM Z h q S)) := by
  refine Con.of (by decide) (Nat.le_of_ble_eq_true rfl) (fun X hX hQ => ?_)
  show G X Z (wM Z h q S) 0 [(0, .ref h), (1, .int (nI p)), (2, .int (nI g))] []
  refine g_aload_n hX dM_canPass_0 0 rfl ?_
  refine g_get hX 0 rfl rfl 7 (by decide) uu_M q_591 rfl rfl dM_canPass_1 ?_
  refine g_iload_n hX dM_canPass_4 2 rfl ?_
  refine g_ald (v := (S 6 g)) hX 7 rfl g (by omega) (by decide) (rfl) (rfl) dM_canPass_5 ?_
  refine g_if_ne hX 43 dM_canPass_6 (by decide) (fun c_6 => ?_) (fun c_6 => ?_)
  · refine g_iconst (v := 0) hX dM_canPass_43 (by decide) ?_
    exact r_zret hX hQ (rfl) dM_canPass_44 keysM (⟨by rw [canP_M hP hP5 hL hL8 hp hg]; simp [*], rfl⟩)
  · refine g_aload_n hX dM_canPass_9 0 rfl ?_
    refine g_get hX 0 rfl rfl 10 (by decide) uu_M q_594 rfl rfl dM_canPass_10 ?_
    refine g_iload_n hX dM_canPass_13 1 rfl ?_
    refine g_ald (v := (S 8 p)) hX 9 rfl p (by omega) (by decide) (rfl) (rfl) dM_canPass_14 ?_
    refine g_aload_n hX dM_canPass_15 0 rfl ?_
    refine g_get hX 0 rfl rfl 3 (by decide) uu_M q_587 rfl rfl dM_canPass_16 ?_
    refine g_iload_n hX dM_canPass_19 2 rfl ?_
    refine g_ald (v := (S 2 g)) hX 3 rfl g (by omega) (by decide) (rfl) (rfl) dM_canPass_20 ?_
    refine g_icmp_eq hX 39 dM_canPass_21 (by decide) (fun c_21 => ?_) (fun c_21 => ?_)
    · refine g_iconst (v := 1) hX dM_canPass_39 (by decide) ?_
      refine g_goto hX 44 dM_canPass_40 (by decide) ?_
      exact r_zret hX hQ (rfl) dM_canPass_44 keysM (⟨by rw [canP_M hP hP5 hL hL8 hp hg]; simp [*], rfl⟩)
    · refine g_aload_n hX dM_canPass_24 0 rfl ?_
      refine g_get hX 0 rfl rfl 10 (by decide) uu_M q_594 rfl rfl dM_canPass_25 ?_
      refine g_iload_n hX dM_canPass_28 1 rfl ?_
      refine g_ald (v := (S 8 p)) hX 9 rfl p (by omega) (by decide) (rfl) (rfl) dM_canPass_29 ?_
      refine g_aload_n hX dM_canPass_30 0 rfl ?_
      refine g_get hX 0 rfl rfl 4 (by decide) uu_M q_588 rfl rfl dM_canPass_31 ?_
      refine g_iload_n hX dM_canPass_34 2 rfl ?_
      refine g_ald (v := (S 3 g)) hX 4 rfl g (by omega) (by decide) (rfl) (rfl) dM_canPass_35 ?_
      refine g_icmp_ne hX 43 dM_canPass_36 (by decide) (fun c_36 => ?_) (fun c_36 => ?_)
      · refine g_iconst (v := 0) hX dM_canPass_43 (by decide) ?_
        exact r_zret hX hQ (rfl) dM_canPass_44 keysM (⟨by rw [canP_M hP hP5 hL hL8 hp hg]; simp [*], rfl⟩)
      · refine g_iconst (v := 1) hX dM_canPass_39 (by decide) ?_
        refine g_goto hX 44 dM_canPass_40 (by decide) ?_
        exact r_zret hX hQ (rfl) dM_canPass_44 keysM (⟨by rw [canP_M hP hP5 hL hL8 hp hg]; simp [*], rfl⟩)
