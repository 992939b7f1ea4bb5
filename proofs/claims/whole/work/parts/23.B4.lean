/-! the Burrow: become -/
/-- pictures of rows that agree as far as the rows go -/
theorem cell_cong {c : ClassId} {n : Nat} {f g : Nat → Int32} (h : ∀ j, j < n → f j = g j) : vp_cell c (n, .inl f) = vp_cell c (n, .inl g) := by
  rw [vp_cell_i, vp_cell_i]
  unfold arrV
  congr 1
  apply Array.ext
  · simp
  · intro i h1 h2
    simp at h1 h2
    simp [h i h1]
theorem at_cong {D : va_G} {cl : List vw_C} {H : Heap} {a : Nat} {c : ClassId} {n : Nat} {f g : Nat → Int32} (h : ∀ j, j < n → f j = g j) (hq : va_at D cl (a, .inl (c, n, .inl f)) H) : va_at D cl (a, .inl (c, n, .inl g)) H := by
  show H[a]? = some (vp_cell c (n, .inl g))
  rw [← cell_cong h]
  exact hq
theorem va_P_cons {D : va_G} {cl : List vw_C} {q : Nat × va_E} {ws : va_W} {H : Heap} : va_P D cl (q :: ws) H ↔ va_at D cl q H ∧ va_P D cl ws H := by
  constructor
  · intro h
    exact ⟨h 0 q rfl, fun k x hk => h (k + 1) x (by simpa using hk)⟩
  · rintro ⟨h1, h2⟩ k x hk
    cases k with
    | zero => cases hk; exact h1
    | succ k => exact h2 k x (by simpa using hk)
theorem va_P_app {D : va_G} {cl : List vw_C} {w1 w2 : va_W} {H : Heap} : va_P D cl (w1 ++ w2) H ↔ va_P D cl w1 H ∧ va_P D cl w2 H := by
  induction w1 with
  | nil => exact ⟨fun h => ⟨fun k q hk => by simp at hk, h⟩, fun h => h.2⟩
  | cons q w ih => rw [List.cons_append, va_P_cons, va_P_cons, ih, and_assoc]
def lenB : Nat → Nat := fun k => match k with
  | 0 => 6 | 1 => 6 | 2 => 7 | 3 => 7 | 4 => 7 | 5 => 7 | 6 => 7 | 7 => 5 | 8 => 5 | 9 => 5 | 10 => 5 | 11 => 6 | _ => 4
theorem same_B {Z : ZZ} {h : Nat} {q : Nat → Nat} {S S' : St} (hs : ∀ k, k ≤ 12 → ∀ j, j < lenB k → S k j = S' k j) : Same Z (wB Z h q S) (wB Z h q S') := by
  refine ⟨rfl, fun H hP => ?_⟩
  have e0 : S 12 0 = S' 12 0 := hs 12 (by decide) 0 (by decide)
  have e1 : S 12 1 = S' 12 1 := hs 12 (by decide) 1 (by decide)
  have e2 : S 12 2 = S' 12 2 := hs 12 (by decide) 2 (by decide)
  have e3 : S 12 3 = S' 12 3 := hs 12 (by decide) 3 (by decide)
  simp only [va_P_cons] at hP ⊢
  obtain ⟨h0, h1, h2, h3, h4, h5, h6, h7, h8, h9, h10, h11, h12, hn⟩ := hP
  rw [e0, e1, e2, e3] at h0
  exact ⟨h0, at_cong (hs 0 (by decide)) h1, at_cong (hs 1 (by decide)) h2, at_cong (hs 2 (by decide)) h3, at_cong (hs 3 (by decide)) h4, at_cong (hs 4 (by decide)) h5, at_cong (hs 5 (by decide)) h6, at_cong (hs 6 (by decide)) h7, at_cong (hs 7 (by decide)) h8, at_cong (hs 8 (by decide)) h9, at_cong (hs 9 (by decide)) h10, at_cong (hs 10 (by decide)) h11, at_cong (hs 11 (by decide)) h12, hn⟩
theorem Same.app {Z : ZZ} {w1 w1' w2 : va_W} (h : Same Z w1 w1') : Same Z (w1 ++ w2) (w1' ++ w2) := by
  refine ⟨by rw [List.map_append, List.map_append, h.1], fun H hP => ?_⟩
  rw [va_P_app] at hP ⊢
  exact ⟨h.2 H hP.1, hP.2⟩
theorem same_cpy {Z : ZZ} {h : Nat} {q : Nat → Nat} {S : St} {f : Nat → Int32} {n : Nat} (k : Nat) (hn : n = lenB k) : Same Z (wB Z h q (sr S k (va_cpy f (S k) 0 0 n))) (wB Z h q (sr S k f)) := by
  refine same_B (fun k' hk j hj => ?_)
  by_cases e : k' = k
  · subst e
    rw [sr_eq, sr_eq]
    exact sb_cpy0 (by omega)
  · rw [sr_ne _ _ e, sr_ne _ _ e]
theorem cpy_in {f g : Nat → Int32} {n j : Nat} (h : j < n) : va_cpy f g 0 0 n j = f j := sb_cpy0 h
set_option maxHeartbeats 4000000 in
set_option maxRecDepth 20000 in
theorem con_B_become (l : Launch) (Z : ZZ) (h : Nat) (q : Nat → Nat) (S : St) (h2 : Nat) (q2 : Nat → Nat) (S2 : St) : Con l Z yB_become cB_become 2 none 1 [.ref h, .ref h2] (wB Z h q S ++ wB Z h2 q2 S2) (Fn none (wB Z h q S2 ++ wB Z h2 q2 S2)) := by
  refine Con.of (by decide) (Nat.le_of_ble_eq_true rfl) (fun X hX hQ => ?_)
  show G X Z (wB Z h q S ++ wB Z h2 q2 S2) 0 [(0, .ref h), (1, .ref h2)] []
  refine g_aload_n hX dB_become_0 1 rfl ?_
  refine g_get hX 13 rfl rfl 0 (by decide) uu_B q_32 rfl rfl dB_become_1 ?_
  refine g_iconst (v := 0) hX dB_become_4 (by decide) ?_
  refine g_aload_n hX dB_become_5 0 rfl ?_
  refine g_get hX 0 rfl rfl 0 (by decide) uu_B q_32 rfl rfl dB_become_6 ?_
  refine g_iconst (v := 0) hX dB_become_9 (by decide) ?_
  refine g_bipush (v := 6) hX dB_become_10 (by decide) ?_
  refine g_copy (ws1 := (wB Z h q (sr S 0 (va_cpy (S2 0) (S 0) 0 0 6)) ++ wB Z h2 q2 S2)) hX 14 1 rfl rfl q_266 q_268 q_267 q_11 (by decide) (by decide) (by decide) (by decide) (by decide) (by decide) (Nat.le_of_ble_eq_true rfl) dB_become_12 (rowBB_S_0 Z h q S h2 q2 S2 _) ?_
  refine g_same (ws1 := (wB Z h q (sr S 0 (S2 0)) ++ wB Z h2 q2 S2)) (Same.app (same_cpy 0 (by decide))) ?_
  refine g_aload_n hX dB_become_15 1 rfl ?_
  refine g_get hX 13 rfl rfl 1 (by decide) uu_B q_34 rfl rfl dB_become_16 ?_
  refine g_iconst (v := 0) hX dB_become_19 (by decide) ?_
  refine g_aload_n hX dB_become_20 0 rfl ?_
  refine g_get hX 0 rfl rfl 1 (by decide) uu_B q_34 rfl rfl dB_become_21 ?_
  refine g_iconst (v := 0) hX dB_become_24 (by decide) ?_
  refine g_bipush (v := 6) hX dB_become_25 (by decide) ?_
  refine g_copy (ws1 := (wB Z h q (sr (sr S 0 (S2 0)) 1 (va_cpy (S2 1) ((sr S 0 (S2 0)) 1) 0 0 6)) ++ wB Z h2 q2 S2)) hX 15 2 rfl rfl q_266 q_268 q_267 q_11 (by decide) (by decide) (by decide) (by decide) (by decide) (by decide) (Nat.le_of_ble_eq_true rfl) dB_become_27 (rowBB_S_1 Z h q (sr S 0 (S2 0)) h2 q2 S2 _) ?_
  refine g_same (ws1 := (wB Z h q (sr (sr S 0 (S2 0)) 1 (S2 1)) ++ wB Z h2 q2 S2)) (Same.app (same_cpy 1 (by decide))) ?_
  refine g_aload_n hX dB_become_30 1 rfl ?_
  refine g_get hX 13 rfl rfl 2 (by decide) uu_B q_36 rfl rfl dB_become_31 ?_
  refine g_iconst (v := 0) hX dB_become_34 (by decide) ?_
  refine g_aload_n hX dB_become_35 0 rfl ?_
  refine g_get hX 0 rfl rfl 2 (by decide) uu_B q_36 rfl rfl dB_become_36 ?_
  refine g_iconst (v := 0) hX dB_become_39 (by decide) ?_
  refine g_bipush (v := 7) hX dB_become_40 (by decide) ?_
  refine g_copy (ws1 := (wB Z h q (sr (sr (sr S 0 (S2 0)) 1 (S2 1)) 2 (va_cpy (S2 2) ((sr (sr S 0 (S2 0)) 1 (S2 1)) 2) 0 0 7)) ++ wB Z h2 q2 S2)) hX 16 3 rfl rfl q_266 q_268 q_267 q_11 (by decide) (by decide) (by decide) (by decide) (by decide) (by decide) (Nat.le_of_ble_eq_true rfl) dB_become_42 (rowBB_S_2 Z h q (sr (sr S 0 (S2 0)) 1 (S2 1)) h2 q2 S2 _) ?_
  refine g_same (ws1 := (wB Z h q (sr (sr (sr S 0 (S2 0)) 1 (S2 1)) 2 (S2 2)) ++ wB Z h2 q2 S2)) (Same.app (same_cpy 2 (by decide))) ?_
  refine g_aload_n hX dB_become_45 1 rfl ?_
  refine g_get hX 13 rfl rfl 3 (by decide) uu_B q_39 rfl rfl dB_become_46 ?_
  refine g_iconst (v := 0) hX dB_become_49 (by decide) ?_
  refine g_aload_n hX dB_become_50 0 rfl ?_
  refine g_get hX 0 rfl rfl 3 (by decide) uu_B q_39 rfl rfl dB_become_51 ?_
  refine g_iconst (v := 0) hX dB_become_54 (by decide) ?_
  refine g_bipush (v := 7) hX dB_become_55 (by decide) ?_
  refine g_copy (ws1 := (wB Z h q (sr (sr (sr (sr S 0 (S2 0)) 1 (S2 1)) 2 (S2 2)) 3 (va_cpy (S2 3) ((sr (sr (sr S 0 (S2 0)) 1 (S2 1)) 2 (S2 2)) 3) 0 0 7)) ++ wB Z h2 q2 S2)) hX 17 4 rfl rfl q_266 q_268 q_267 q_11 (by decide) (by decide) (by decide) (by decide) (by decide) (by decide) (Nat.le_of_ble_eq_true rfl) dB_become_57 (rowBB_S_3 Z h q (sr (sr (sr S 0 (S2 0)) 1 (S2 1)) 2 (S2 2)) h2 q2 S2 _) ?_
  refine g_same (ws1 := (wB Z h q (sr (sr (sr (sr S 0 (S2 0)) 1 (S2 1)) 2 (S2 2)) 3 (S2 3)) ++ wB Z h2 q2 S2)) (Same.app (same_cpy 3 (by decide))) ?_
  refine g_aload_n hX dB_become_60 1 rfl ?_
  refine g_get hX 13 rfl rfl 4 (by decide) uu_B q_42 rfl rfl dB_become_61 ?_
  refine g_iconst (v := 0) hX dB_become_64 (by decide) ?_
  refine g_aload_n hX dB_become_65 0 rfl ?_
  refine g_get hX 0 rfl rfl 4 (by decide) uu_B q_42 rfl rfl dB_become_66 ?_
  refine g_iconst (v := 0) hX dB_become_69 (by decide) ?_
  refine g_bipush (v := 7) hX dB_become_70 (by decide) ?_
  refine g_copy (ws1 := (wB Z h q (sr (sr (sr (sr (sr S 0 (S2 0)) 1 (S2 1)) 2 (S2 2)) 3 (S2 3)) 4 (va_cpy (S2 4) ((sr (sr (sr (sr S 0 (S2 0)) 1 (S2 1)) 2 (S2 2)) 3 (S2 3)) 4) 0 0 7)) ++ wB Z h2 q2 S2)) hX 18 5 rfl rfl q_266 q_268 q_267 q_11 (by decide) (by decide) (by decide) (by decide) (by decide) (by decide) (Nat.le_of_ble_eq_true rfl) dB_become_72 (rowBB_S_4 Z h q (sr (sr (sr (sr S 0 (S2 0)) 1 (S2 1)) 2 (S2 2)) 3 (S2 3)) h2 q2 S2 _) ?_
  refine g_same (ws1 := (wB Z h q (sr (sr (sr (sr (sr S 0 (S2 0)) 1 (S2 1)) 2 (S2 2)) 3 (S2 3)) 4 (S2 4)) ++ wB Z h2 q2 S2)) (Same.app (same_cpy 4 (by decide))) ?_
  refine g_aload_n hX dB_become_75 1 rfl ?_
  refine g_get hX 13 rfl rfl 5 (by decide) uu_B q_44 rfl rfl dB_become_76 ?_
  refine g_iconst (v := 0) hX dB_become_79 (by decide) ?_
  refine g_aload_n hX dB_become_80 0 rfl ?_
  refine g_get hX 0 rfl rfl 5 (by decide) uu_B q_44 rfl rfl dB_become_81 ?_
  refine g_iconst (v := 0) hX dB_become_84 (by decide) ?_
  refine g_bipush (v := 7) hX dB_become_85 (by decide) ?_
  refine g_copy (ws1 := (wB Z h q (sr (sr (sr (sr (sr (sr S 0 (S2 0)) 1 (S2 1)) 2 (S2 2)) 3 (S2 3)) 4 (S2 4)) 5 (va_cpy (S2 5) ((sr (sr (sr (sr (sr S 0 (S2 0)) 1 (S2 1)) 2 (S2 2)) 3 (S2 3)) 4 (S2 4)) 5) 0 0 7)) ++ wB Z h2 q2 S2)) hX 19 6 rfl rfl q_266 q_268 q_267 q_11 (by decide) (by decide) (by decide) (by decide) (by decide) (by decide) (Nat.le_of_ble_eq_true rfl) dB_become_87 (rowBB_S_5 Z h q (sr (sr (sr (sr (sr S 0 (S2 0)) 1 (S2 1)) 2 (S2 2)) 3 (S2 3)) 4 (S2 4)) h2 q2 S2 _) ?_
  refine g_same (ws1 := (wB Z h q (sr (sr (sr (sr (sr (sr S 0 (S2 0)) 1 (S2 1)) 2 (S2 2)) 3 (S2 3)) 4 (S2 4)) 5 (S2 5)) ++ wB Z h2 q2 S2)) (Same.app (same_cpy 5 (by decide))) ?_
  refine g_aload_n hX dB_become_90 1 rfl ?_
  refine g_get hX 13 rfl rfl 6 (by decide) uu_B q_47 rfl rfl dB_become_91 ?_
  refine g_iconst (v := 0) hX dB_become_94 (by decide) ?_
  refine g_aload_n hX dB_become_95 0 rfl ?_
  refine g_get hX 0 rfl rfl 6 (by decide) uu_B q_47 rfl rfl dB_become_96 ?_
  refine g_iconst (v := 0) hX dB_become_99 (by decide) ?_
  refine g_bipush (v := 7) hX dB_become_100 (by decide) ?_
  refine g_copy (ws1 := (wB Z h q (sr (sr (sr (sr (sr (sr (sr S 0 (S2 0)) 1 (S2 1)) 2 (S2 2)) 3 (S2 3)) 4 (S2 4)) 5 (S2 5)) 6 (va_cpy (S2 6) ((sr (sr (sr (sr (sr (sr S 0 (S2 0)) 1 (S2 1)) 2 (S2 2)) 3 (S2 3)) 4 (S2 4)) 5 (S2 5)) 6) 0 0 7)) ++ wB Z h2 q2 S2)) hX 20 7 rfl rfl q_266 q_268 q_267 q_11 (by decide) (by decide) (by decide) (by decide) (by decide) (by decide) (Nat.le_of_ble_eq_true rfl) dB_become_102 (rowBB_S_6 Z h q (sr (sr (sr (sr (sr (sr S 0 (S2 0)) 1 (S2 1)) 2 (S2 2)) 3 (S2 3)) 4 (S2 4)) 5 (S2 5)) h2 q2 S2 _) ?_
  refine g_same (ws1 := (wB Z h q (sr (sr (sr (sr (sr (sr (sr S 0 (S2 0)) 1 (S2 1)) 2 (S2 2)) 3 (S2 3)) 4 (S2 4)) 5 (S2 5)) 6 (S2 6)) ++ wB Z h2 q2 S2)) (Same.app (same_cpy 6 (by decide))) ?_
  refine g_aload_n hX dB_become_105 0 rfl ?_
  refine g_aload_n hX dB_become_106 1 rfl ?_
  refine g_get hX 13 rfl rfl 7 (by decide) uu_B q_49 rfl rfl dB_become_107 ?_
  refine g_put (ws1 := (wB Z h q (sw (sr (sr (sr (sr (sr (sr (sr S 0 (S2 0)) 1 (S2 1)) 2 (S2 2)) 3 (S2 3)) 4 (S2 4)) 5 (S2 5)) 6 (S2 6)) 12 0 (S2 12 0)) ++ wB Z h2 q2 S2)) hX 0 rfl rfl 7 (by decide) uu_B tyF_B tyF_B_ok nmF_B q_49 rfl rfl rfl rfl rfl (Nat.le_of_ble_eq_true rfl) dB_become_110 (fldBB_S_12_0 Z h q (sr (sr (sr (sr (sr (sr (sr S 0 (S2 0)) 1 (S2 1)) 2 (S2 2)) 3 (S2 3)) 4 (S2 4)) 5 (S2 5)) 6 (S2 6)) h2 q2 S2 (S2 12 0)) ?_
  refine g_aload_n hX dB_become_113 1 rfl ?_
  refine g_get hX 13 rfl rfl 8 (by decide) uu_B q_52 rfl rfl dB_become_114 ?_
  refine g_iconst (v := 0) hX dB_become_117 (by decide) ?_
  refine g_aload_n hX dB_become_118 0 rfl ?_
  refine g_get hX 0 rfl rfl 8 (by decide) uu_B q_52 rfl rfl dB_become_119 ?_
  refine g_iconst (v := 0) hX dB_become_122 (by decide) ?_
  refine g_iconst (v := 5) hX dB_become_123 (by decide) ?_
  refine g_copy (ws1 := (wB Z h q (sr (sw (sr (sr (sr (sr (sr (sr (sr S 0 (S2 0)) 1 (S2 1)) 2 (S2 2)) 3 (S2 3)) 4 (S2 4)) 5 (S2 5)) 6 (S2 6)) 12 0 (S2 12 0)) 7 (va_cpy (S2 7) ((sw (sr (sr (sr (sr (sr (sr (sr S 0 (S2 0)) 1 (S2 1)) 2 (S2 2)) 3 (S2 3)) 4 (S2 4)) 5 (S2 5)) 6 (S2 6)) 12 0 (S2 12 0)) 7) 0 0 5)) ++ wB Z h2 q2 S2)) hX 21 8 rfl rfl q_266 q_268 q_267 q_11 (by decide) (by decide) (by decide) (by decide) (by decide) (by decide) (Nat.le_of_ble_eq_true rfl) dB_become_124 (rowBB_S_7 Z h q (sw (sr (sr (sr (sr (sr (sr (sr S 0 (S2 0)) 1 (S2 1)) 2 (S2 2)) 3 (S2 3)) 4 (S2 4)) 5 (S2 5)) 6 (S2 6)) 12 0 (S2 12 0)) h2 q2 S2 _) ?_
  refine g_same (ws1 := (wB Z h q (sr (sw (sr (sr (sr (sr (sr (sr (sr S 0 (S2 0)) 1 (S2 1)) 2 (S2 2)) 3 (S2 3)) 4 (S2 4)) 5 (S2 5)) 6 (S2 6)) 12 0 (S2 12 0)) 7 (S2 7)) ++ wB Z h2 q2 S2)) (Same.app (same_cpy 7 (by decide))) ?_
  refine g_aload_n hX dB_become_127 1 rfl ?_
  refine g_get hX 13 rfl rfl 9 (by decide) uu_B q_54 rfl rfl dB_become_128 ?_
  refine g_iconst (v := 0) hX dB_become_131 (by decide) ?_
  refine g_aload_n hX dB_become_132 0 rfl ?_
  refine g_get hX 0 rfl rfl 9 (by decide) uu_B q_54 rfl rfl dB_become_133 ?_
  refine g_iconst (v := 0) hX dB_become_136 (by decide) ?_
  refine g_iconst (v := 5) hX dB_become_137 (by decide) ?_
  refine g_copy (ws1 := (wB Z h q (sr (sr (sw (sr (sr (sr (sr (sr (sr (sr S 0 (S2 0)) 1 (S2 1)) 2 (S2 2)) 3 (S2 3)) 4 (S2 4)) 5 (S2 5)) 6 (S2 6)) 12 0 (S2 12 0)) 7 (S2 7)) 8 (va_cpy (S2 8) ((sr (sw (sr (sr (sr (sr (sr (sr (sr S 0 (S2 0)) 1 (S2 1)) 2 (S2 2)) 3 (S2 3)) 4 (S2 4)) 5 (S2 5)) 6 (S2 6)) 12 0 (S2 12 0)) 7 (S2 7)) 8) 0 0 5)) ++ wB Z h2 q2 S2)) hX 22 9 rfl rfl q_266 q_268 q_267 q_11 (by decide) (by decide) (by decide) (by decide) (by decide) (by decide) (Nat.le_of_ble_eq_true rfl) dB_become_138 (rowBB_S_8 Z h q (sr (sw (sr (sr (sr (sr (sr (sr (sr S 0 (S2 0)) 1 (S2 1)) 2 (S2 2)) 3 (S2 3)) 4 (S2 4)) 5 (S2 5)) 6 (S2 6)) 12 0 (S2 12 0)) 7 (S2 7)) h2 q2 S2 _) ?_
  refine g_same (ws1 := (wB Z h q (sr (sr (sw (sr (sr (sr (sr (sr (sr (sr S 0 (S2 0)) 1 (S2 1)) 2 (S2 2)) 3 (S2 3)) 4 (S2 4)) 5 (S2 5)) 6 (S2 6)) 12 0 (S2 12 0)) 7 (S2 7)) 8 (S2 8)) ++ wB Z h2 q2 S2)) (Same.app (same_cpy 8 (by decide))) ?_
  refine g_aload_n hX dB_become_141 1 rfl ?_
  refine g_get hX 13 rfl rfl 10 (by decide) uu_B q_56 rfl rfl dB_become_142 ?_
  refine g_iconst (v := 0) hX dB_become_145 (by decide) ?_
  refine g_aload_n hX dB_become_146 0 rfl ?_
  refine g_get hX 0 rfl rfl 10 (by decide) uu_B q_56 rfl rfl dB_become_147 ?_
  refine g_iconst (v := 0) hX dB_become_150 (by decide) ?_
  refine g_iconst (v := 5) hX dB_become_151 (by decide) ?_
  refine g_copy (ws1 := (wB Z h q (sr (sr (sr (sw (sr (sr (sr (sr (sr (sr (sr S 0 (S2 0)) 1 (S2 1)) 2 (S2 2)) 3 (S2 3)) 4 (S2 4)) 5 (S2 5)) 6 (S2 6)) 12 0 (S2 12 0)) 7 (S2 7)) 8 (S2 8)) 9 (va_cpy (S2 9) ((sr (sr (sw (sr (sr (sr (sr (sr (sr (sr S 0 (S2 0)) 1 (S2 1)) 2 (S2 2)) 3 (S2 3)) 4 (S2 4)) 5 (S2 5)) 6 (S2 6)) 12 0 (S2 12 0)) 7 (S2 7)) 8 (S2 8)) 9) 0 0 5)) ++ wB Z h2 q2 S2)) hX 23 10 rfl rfl q_266 q_268 q_267 q_11 (by decide) (by decide) (by decide) (by decide) (by decide) (by decide) (Nat.le_of_ble_eq_true rfl) dB_become_152 (rowBB_S_9 Z h q (sr (sr (sw (sr (sr (sr (sr (sr (sr (sr S 0 (S2 0)) 1 (S2 1)) 2 (S2 2)) 3 (S2 3)) 4 (S2 4)) 5 (S2 5)) 6 (S2 6)) 12 0 (S2 12 0)) 7 (S2 7)) 8 (S2 8)) h2 q2 S2 _) ?_
  refine g_same (ws1 := (wB Z h q (sr (sr (sr (sw (sr (sr (sr (sr (sr (sr (sr S 0 (S2 0)) 1 (S2 1)) 2 (S2 2)) 3 (S2 3)) 4 (S2 4)) 5 (S2 5)) 6 (S2 6)) 12 0 (S2 12 0)) 7 (S2 7)) 8 (S2 8)) 9 (S2 9)) ++ wB Z h2 q2 S2)) (Same.app (same_cpy 9 (by decide))) ?_
  refine g_aload_n hX dB_become_155 1 rfl ?_
  refine g_get hX 13 rfl rfl 11 (by decide) uu_B q_58 rfl rfl dB_become_156 ?_
  refine g_iconst (v := 0) hX dB_become_159 (by decide) ?_
  refine g_aload_n hX dB_become_160 0 rfl ?_
  refine g_get hX 0 rfl rfl 11 (by decide) uu_B q_58 rfl rfl dB_become_161 ?_
  refine g_iconst (v := 0) hX dB_become_164 (by decide) ?_
  refine g_iconst (v := 5) hX dB_become_165 (by decide) ?_
  refine g_copy (ws1 := (wB Z h q (sr (sr (sr (sr (sw (sr (sr (sr (sr (sr (sr (sr S 0 (S2 0)) 1 (S2 1)) 2 (S2 2)) 3 (S2 3)) 4 (S2 4)) 5 (S2 5)) 6 (S2 6)) 12 0 (S2 12 0)) 7 (S2 7)) 8 (S2 8)) 9 (S2 9)) 10 (va_cpy (S2 10) ((sr (sr (sr (sw (sr (sr (sr (sr (sr (sr (sr S 0 (S2 0)) 1 (S2 1)) 2 (S2 2)) 3 (S2 3)) 4 (S2 4)) 5 (S2 5)) 6 (S2 6)) 12 0 (S2 12 0)) 7 (S2 7)) 8 (S2 8)) 9 (S2 9)) 10) 0 0 5)) ++ wB Z h2 q2 S2)) hX 24 11 rfl rfl q_266 q_268 q_267 q_11 (by decide) (by decide) (by decide) (by decide) (by decide) (by decide) (Nat.le_of_ble_eq_true rfl) dB_become_166 (rowBB_S_10 Z h q (sr (sr (sr (sw (sr (sr (sr (sr (sr (sr (sr S 0 (S2 0)) 1 (S2 1)) 2 (S2 2)) 3 (S2 3)) 4 (S2 4)) 5 (S2 5)) 6 (S2 6)) 12 0 (S2 12 0)) 7 (S2 7)) 8 (S2 8)) 9 (S2 9)) h2 q2 S2 _) ?_
  refine g_same (ws1 := (wB Z h q (sr (sr (sr (sr (sw (sr (sr (sr (sr (sr (sr (sr S 0 (S2 0)) 1 (S2 1)) 2 (S2 2)) 3 (S2 3)) 4 (S2 4)) 5 (S2 5)) 6 (S2 6)) 12 0 (S2 12 0)) 7 (S2 7)) 8 (S2 8)) 9 (S2 9)) 10 (S2 10)) ++ wB Z h2 q2 S2)) (Same.app (same_cpy 10 (by decide))) ?_
  refine g_aload_n hX dB_become_169 0 rfl ?_
  refine g_aload_n hX dB_become_170 1 rfl ?_
  refine g_get hX 13 rfl rfl 12 (by decide) uu_B q_60 rfl rfl dB_become_171 ?_
  refine g_put (ws1 := (wB Z h q (sw (sr (sr (sr (sr (sw (sr (sr (sr (sr (sr (sr (sr S 0 (S2 0)) 1 (S2 1)) 2 (S2 2)) 3 (S2 3)) 4 (S2 4)) 5 (S2 5)) 6 (S2 6)) 12 0 (S2 12 0)) 7 (S2 7)) 8 (S2 8)) 9 (S2 9)) 10 (S2 10)) 12 1 (S2 12 1)) ++ wB Z h2 q2 S2)) hX 0 rfl rfl 12 (by decide) uu_B tyF_B tyF_B_ok nmF_B q_60 rfl rfl rfl rfl rfl (Nat.le_of_ble_eq_true rfl) dB_become_174 (fldBB_S_12_1 Z h q (sr (sr (sr (sr (sw (sr (sr (sr (sr (sr (sr (sr S 0 (S2 0)) 1 (S2 1)) 2 (S2 2)) 3 (S2 3)) 4 (S2 4)) 5 (S2 5)) 6 (S2 6)) 12 0 (S2 12 0)) 7 (S2 7)) 8 (S2 8)) 9 (S2 9)) 10 (S2 10)) h2 q2 S2 (S2 12 1)) ?_
  refine g_aload_n hX dB_become_177 1 rfl ?_
  refine g_get hX 13 rfl rfl 13 (by decide) uu_B q_62 rfl rfl dB_become_178 ?_
  refine g_iconst (v := 0) hX dB_become_181 (by decide) ?_
  refine g_aload_n hX dB_become_182 0 rfl ?_
  refine g_get hX 0 rfl rfl 13 (by decide) uu_B q_62 rfl rfl dB_become_183 ?_
  refine g_iconst (v := 0) hX dB_become_186 (by decide) ?_
  refine g_bipush (v := 6) hX dB_become_187 (by decide) ?_
  refine g_copy (ws1 := (wB Z h q (sr (sw (sr (sr (sr (sr (sw (sr (sr (sr (sr (sr (sr (sr S 0 (S2 0)) 1 (S2 1)) 2 (S2 2)) 3 (S2 3)) 4 (S2 4)) 5 (S2 5)) 6 (S2 6)) 12 0 (S2 12 0)) 7 (S2 7)) 8 (S2 8)) 9 (S2 9)) 10 (S2 10)) 12 1 (S2 12 1)) 11 (va_cpy (S2 11) ((sw (sr (sr (sr (sr (sw (sr (sr (sr (sr (sr (sr (sr S 0 (S2 0)) 1 (S2 1)) 2 (S2 2)) 3 (S2 3)) 4 (S2 4)) 5 (S2 5)) 6 (S2 6)) 12 0 (S2 12 0)) 7 (S2 7)) 8 (S2 8)) 9 (S2 9)) 10 (S2 10)) 12 1 (S2 12 1)) 11) 0 0 6)) ++ wB Z h2 q2 S2)) hX 25 12 rfl rfl q_266 q_268 q_267 q_11 (by decide) (by decide) (by decide) (by decide) (by decide) (by decide) (Nat.le_of_ble_eq_true rfl) dB_become_189 (rowBB_S_11 Z h q (sw (sr (sr (sr (sr (sw (sr (sr (sr (sr (sr (sr (sr S 0 (S2 0)) 1 (S2 1)) 2 (S2 2)) 3 (S2 3)) 4 (S2 4)) 5 (S2 5)) 6 (S2 6)) 12 0 (S2 12 0)) 7 (S2 7)) 8 (S2 8)) 9 (S2 9)) 10 (S2 10)) 12 1 (S2 12 1)) h2 q2 S2 _) ?_
  refine g_same (ws1 := (wB Z h q (sr (sw (sr (sr (sr (sr (sw (sr (sr (sr (sr (sr (sr (sr S 0 (S2 0)) 1 (S2 1)) 2 (S2 2)) 3 (S2 3)) 4 (S2 4)) 5 (S2 5)) 6 (S2 6)) 12 0 (S2 12 0)) 7 (S2 7)) 8 (S2 8)) 9 (S2 9)) 10 (S2 10)) 12 1 (S2 12 1)) 11 (S2 11)) ++ wB Z h2 q2 S2)) (Same.app (same_cpy 11 (by decide))) ?_
  refine g_aload_n hX dB_become_192 0 rfl ?_
  refine g_aload_n hX dB_become_193 1 rfl ?_
  refine g_get hX 13 rfl rfl 14 (by decide) uu_B q_63 rfl rfl dB_become_194 ?_
  refine g_put (ws1 := (wB Z h q (sw (sr (sw (sr (sr (sr (sr (sw (sr (sr (sr (sr (sr (sr (sr S 0 (S2 0)) 1 (S2 1)) 2 (S2 2)) 3 (S2 3)) 4 (S2 4)) 5 (S2 5)) 6 (S2 6)) 12 0 (S2 12 0)) 7 (S2 7)) 8 (S2 8)) 9 (S2 9)) 10 (S2 10)) 12 1 (S2 12 1)) 11 (S2 11)) 12 2 (S2 12 2)) ++ wB Z h2 q2 S2)) hX 0 rfl rfl 14 (by decide) uu_B tyF_B tyF_B_ok nmF_B q_63 rfl rfl rfl rfl rfl (Nat.le_of_ble_eq_true rfl) dB_become_197 (fldBB_S_12_2 Z h q (sr (sw (sr (sr (sr (sr (sw (sr (sr (sr (sr (sr (sr (sr S 0 (S2 0)) 1 (S2 1)) 2 (S2 2)) 3 (S2 3)) 4 (S2 4)) 5 (S2 5)) 6 (S2 6)) 12 0 (S2 12 0)) 7 (S2 7)) 8 (S2 8)) 9 (S2 9)) 10 (S2 10)) 12 1 (S2 12 1)) 11 (S2 11)) h2 q2 S2 (S2 12 2)) ?_
  refine g_aload_n hX dB_become_200 0 rfl ?_
  refine g_aload_n hX dB_become_201 1 rfl ?_
  refine g_get hX 13 rfl rfl 15 (by decide) uu_B q_65 rfl rfl dB_become_202 ?_
  refine g_put (ws1 := (wB Z h q (sw (sw (sr (sw (sr (sr (sr (sr (sw (sr (sr (sr (sr (sr (sr (sr S 0 (S2 0)) 1 (S2 1)) 2 (S2 2)) 3 (S2 3)) 4 (S2 4)) 5 (S2 5)) 6 (S2 6)) 12 0 (S2 12 0)) 7 (S2 7)) 8 (S2 8)) 9 (S2 9)) 10 (S2 10)) 12 1 (S2 12 1)) 11 (S2 11)) 12 2 (S2 12 2)) 12 3 (S2 12 3)) ++ wB Z h2 q2 S2)) hX 0 rfl rfl 15 (by decide) uu_B tyF_B tyF_B_ok nmF_B q_65 rfl rfl rfl rfl rfl (Nat.le_of_ble_eq_true rfl) dB_become_205 (fldBB_S_12_3 Z h q (sw (sr (sw (sr (sr (sr (sr (sw (sr (sr (sr (sr (sr (sr (sr S 0 (S2 0)) 1 (S2 1)) 2 (S2 2)) 3 (S2 3)) 4 (S2 4)) 5 (S2 5)) 6 (S2 6)) 12 0 (S2 12 0)) 7 (S2 7)) 8 (S2 8)) 9 (S2 9)) 10 (S2 10)) 12 1 (S2 12 1)) 11 (S2 11)) 12 2 (S2 12 2)) h2 q2 S2 (S2 12 3)) ?_
  refine g_same (ws1 := wB Z h q S2 ++ wB Z h2 q2 S2) (Same.app (same_B (fun k hk j hj => ?_))) ?_
  · rcases (show k = 0 ∨ k = 1 ∨ k = 2 ∨ k = 3 ∨ k = 4 ∨ k = 5 ∨ k = 6 ∨ k = 7 ∨ k = 8 ∨ k = 9 ∨ k = 10 ∨ k = 11 ∨ k = 12 by omega) with rfl | rfl | rfl | rfl | rfl | rfl | rfl | rfl | rfl | rfl | rfl | rfl | rfl
    · simp only [sw_ne, sr_ne, sr_eq, ne_eq, Nat.reduceEqDiff, not_false_eq_true]
    · simp only [sw_ne, sr_ne, sr_eq, ne_eq, Nat.reduceEqDiff, not_false_eq_true]
    · simp only [sw_ne, sr_ne, sr_eq, ne_eq, Nat.reduceEqDiff, not_false_eq_true]
    · simp only [sw_ne, sr_ne, sr_eq, ne_eq, Nat.reduceEqDiff, not_false_eq_true]
    · simp only [sw_ne, sr_ne, sr_eq, ne_eq, Nat.reduceEqDiff, not_false_eq_true]
    · simp only [sw_ne, sr_ne, sr_eq, ne_eq, Nat.reduceEqDiff, not_false_eq_true]
    · simp only [sw_ne, sr_ne, sr_eq, ne_eq, Nat.reduceEqDiff, not_false_eq_true]
    · simp only [sw_ne, sr_ne, sr_eq, ne_eq, Nat.reduceEqDiff, not_false_eq_true]
    · simp only [sw_ne, sr_ne, sr_eq, ne_eq, Nat.reduceEqDiff, not_false_eq_true]
    · simp only [sw_ne, sr_ne, sr_eq, ne_eq, Nat.reduceEqDiff, not_false_eq_true]
    · simp only [sw_ne, sr_ne, sr_eq, ne_eq, Nat.reduceEqDiff, not_false_eq_true]
    · simp only [sw_ne, sr_ne, sr_eq, ne_eq, Nat.reduceEqDiff, not_false_eq_true]
    · have hj4 : j < 4 := hj
      rcases (show j = 0 ∨ j = 1 ∨ j = 2 ∨ j = 3 by omega) with rfl | rfl | rfl | rfl <;> simp [sw_eq, sw_ne, sr_ne, upd]
  exact r_vret hX hQ dB_become_208 rfl (⟨rfl, rfl⟩)
