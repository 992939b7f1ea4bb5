/-! the Model: again -/
/-- rows 0 to 12 out of a pack -/
def up (S : St) (f : Nat → Int32) : St := fun k j => if k = 0 ∧ j < 6 then f (0 + j) else if k = 1 ∧ j < 6 then f (6 + j) else if k = 2 ∧ j < 7 then f (12 + j) else if k = 3 ∧ j < 7 then f (19 + j) else if k = 4 ∧ j < 7 then f (26 + j) else if k = 5 ∧ j < 7 then f (33 + j) else if k = 6 ∧ j < 7 then f (40 + j) else if k = 7 ∧ j < 5 then f (47 + j) else if k = 8 ∧ j < 5 then f (52 + j) else if k = 9 ∧ j < 5 then f (57 + j) else if k = 10 ∧ j < 5 then f (62 + j) else if k = 11 ∧ j < 6 then f (67 + j) else if k = 12 ∧ j < 4 then f (73 + j) else S k j
def AG (T S : St) (f : Nat → Int32) (Q : Nat → Nat → Prop) : Prop := ∀ k j, (Q k j → T k j = up S f k j) ∧ (¬ Q k j → T k j = S k j)
theorem AG.put {T S : St} {f : Nat → Int32} {Q Q' : Nat → Nat → Prop} (h : AG T S f Q) (k0 j0 : Nat) {v : Int32} (hv : v = up S f k0 j0) (hQ : ∀ k j, Q' k j ↔ (Q k j ∨ (k = k0 ∧ j = j0))) : AG (sw T k0 j0 v) S f Q' := by
  intro k j
  rw [swv]
  by_cases e : k = k0 ∧ j = j0
  · rw [if_pos e, hv, e.1, e.2]
    exact ⟨fun _ => rfl, fun q => absurd ((hQ k0 j0).mpr (Or.inr ⟨rfl, rfl⟩)) q⟩
  · rw [if_neg e]
    exact ⟨fun q => (h k j).1 (((hQ k j).mp q).resolve_right e), fun q => (h k j).2 (fun z => q ((hQ k j).mpr (Or.inl z)))⟩
theorem AG.mono {T S : St} {f : Nat → Int32} {Q Q' : Nat → Nat → Prop} (h : AG T S f Q) (hQ : ∀ k j, Q' k j ↔ Q k j) : AG T S f Q' := fun k j => ⟨fun q => (h k j).1 ((hQ k j).mp q), fun q => (h k j).2 (fun z => q ((hQ k j).mpr z))⟩
theorem up_out (S : St) (f : Nat → Int32) {k : Nat} (hk : 12 < k) (j : Nat) : up S f k j = S k j := by
  unfold up
  rw [if_neg (by omega)]
  rw [if_neg (by omega)]
  rw [if_neg (by omega)]
  rw [if_neg (by omega)]
  rw [if_neg (by omega)]
  rw [if_neg (by omega)]
  rw [if_neg (by omega)]
  rw [if_neg (by omega)]
  rw [if_neg (by omega)]
  rw [if_neg (by omega)]
  rw [if_neg (by omega)]
  rw [if_neg (by omega)]
  rw [if_neg (by omega)]

theorem AG.kk {T S : St} {f : Nat → Int32} {Q : Nat → Nat → Prop} (h : AG T S f Q) {k : Nat} (hk : 12 < k) (j : Nat) : T k j = S k j := by
  by_cases q : Q k j
  · rw [(h k j).1 q, up_out S f hk]
  · exact (h k j).2 q
theorem AG.all {T S : St} {f : Nat → Int32} {Q : Nat → Nat → Prop} (h : AG T S f Q) (hQ : ∀ k j, ¬ Q k j → up S f k j = S k j) : T = up S f := by
  apply st_ext
  intro k j
  by_cases q : Q k j
  · exact (h k j).1 q
  · rw [(h k j).2 q, hQ k j q]
theorem up_0 (S : St) (f : Nat → Int32) {j : Nat} (h : j < 6) : up S f 0 j = f (0 + j) := by
  unfold up
  rw [if_pos (by omega)]
theorem up_1 (S : St) (f : Nat → Int32) {j : Nat} (h : j < 6) : up S f 1 j = f (6 + j) := by
  unfold up
  rw [if_neg (by omega)]
  rw [if_pos (by omega)]
theorem up_2 (S : St) (f : Nat → Int32) {j : Nat} (h : j < 7) : up S f 2 j = f (12 + j) := by
  unfold up
  rw [if_neg (by omega)]
  rw [if_neg (by omega)]
  rw [if_pos (by omega)]
theorem up_3 (S : St) (f : Nat → Int32) {j : Nat} (h : j < 7) : up S f 3 j = f (19 + j) := by
  unfold up
  rw [if_neg (by omega)]
  rw [if_neg (by omega)]
  rw [if_neg (by omega)]
  rw [if_pos (by omega)]
theorem up_4 (S : St) (f : Nat → Int32) {j : Nat} (h : j < 7) : up S f 4 j = f (26 + j) := by
  unfold up
  rw [if_neg (by omega)]
  rw [if_neg (by omega)]
  rw [if_neg (by omega)]
  rw [if_neg (by omega)]
  rw [if_pos (by omega)]
theorem up_5 (S : St) (f : Nat → Int32) {j : Nat} (h : j < 7) : up S f 5 j = f (33 + j) := by
  unfold up
  rw [if_neg (by omega)]
  rw [if_neg (by omega)]
  rw [if_neg (by omega)]
  rw [if_neg (by omega)]
  rw [if_neg (by omega)]
  rw [if_pos (by omega)]
theorem up_6 (S : St) (f : Nat → Int32) {j : Nat} (h : j < 7) : up S f 6 j = f (40 + j) := by
  unfold up
  rw [if_neg (by omega)]
  rw [if_neg (by omega)]
  rw [if_neg (by omega)]
  rw [if_neg (by omega)]
  rw [if_neg (by omega)]
  rw [if_neg (by omega)]
  rw [if_pos (by omega)]
theorem up_7 (S : St) (f : Nat → Int32) {j : Nat} (h : j < 5) : up S f 7 j = f (47 + j) := by
  unfold up
  rw [if_neg (by omega)]
  rw [if_neg (by omega)]
  rw [if_neg (by omega)]
  rw [if_neg (by omega)]
  rw [if_neg (by omega)]
  rw [if_neg (by omega)]
  rw [if_neg (by omega)]
  rw [if_pos (by omega)]
theorem up_8 (S : St) (f : Nat → Int32) {j : Nat} (h : j < 5) : up S f 8 j = f (52 + j) := by
  unfold up
  rw [if_neg (by omega)]
  rw [if_neg (by omega)]
  rw [if_neg (by omega)]
  rw [if_neg (by omega)]
  rw [if_neg (by omega)]
  rw [if_neg (by omega)]
  rw [if_neg (by omega)]
  rw [if_neg (by omega)]
  rw [if_pos (by omega)]
theorem up_9 (S : St) (f : Nat → Int32) {j : Nat} (h : j < 5) : up S f 9 j = f (57 + j) := by
  unfold up
  rw [if_neg (by omega)]
  rw [if_neg (by omega)]
  rw [if_neg (by omega)]
  rw [if_neg (by omega)]
  rw [if_neg (by omega)]
  rw [if_neg (by omega)]
  rw [if_neg (by omega)]
  rw [if_neg (by omega)]
  rw [if_neg (by omega)]
  rw [if_pos (by omega)]
theorem up_10 (S : St) (f : Nat → Int32) {j : Nat} (h : j < 5) : up S f 10 j = f (62 + j) := by
  unfold up
  rw [if_neg (by omega)]
  rw [if_neg (by omega)]
  rw [if_neg (by omega)]
  rw [if_neg (by omega)]
  rw [if_neg (by omega)]
  rw [if_neg (by omega)]
  rw [if_neg (by omega)]
  rw [if_neg (by omega)]
  rw [if_neg (by omega)]
  rw [if_neg (by omega)]
  rw [if_pos (by omega)]
theorem up_11 (S : St) (f : Nat → Int32) {j : Nat} (h : j < 6) : up S f 11 j = f (67 + j) := by
  unfold up
  rw [if_neg (by omega)]
  rw [if_neg (by omega)]
  rw [if_neg (by omega)]
  rw [if_neg (by omega)]
  rw [if_neg (by omega)]
  rw [if_neg (by omega)]
  rw [if_neg (by omega)]
  rw [if_neg (by omega)]
  rw [if_neg (by omega)]
  rw [if_neg (by omega)]
  rw [if_neg (by omega)]
  rw [if_pos (by omega)]
theorem up_12 (S : St) (f : Nat → Int32) {j : Nat} (h : j < 4) : up S f 12 j = f (73 + j) := by
  unfold up
  rw [if_neg (by omega)]
  rw [if_neg (by omega)]
  rw [if_neg (by omega)]
  rw [if_neg (by omega)]
  rw [if_neg (by omega)]
  rw [if_neg (by omega)]
  rw [if_neg (by omega)]
  rw [if_neg (by omega)]
  rw [if_neg (by omega)]
  rw [if_neg (by omega)]
  rw [if_neg (by omega)]
  rw [if_neg (by omega)]
  rw [if_pos (by omega)]
theorem up_else (S : St) (f : Nat → Int32) {k j : Nat} (h : ¬ ((k = 0 ∨ k = 1 ∨ k = 11) ∧ j < 6 ∨ (2 ≤ k ∧ k ≤ 6) ∧ j < 7 ∨ (7 ≤ k ∧ k ≤ 10) ∧ j < 5 ∨ k = 12 ∧ j < 4)) : up S f k j = S k j := by
  unfold up
  rw [if_neg (by omega)]
  rw [if_neg (by omega)]
  rw [if_neg (by omega)]
  rw [if_neg (by omega)]
  rw [if_neg (by omega)]
  rw [if_neg (by omega)]
  rw [if_neg (by omega)]
  rw [if_neg (by omega)]
  rw [if_neg (by omega)]
  rw [if_neg (by omega)]
  rw [if_neg (by omega)]
  rw [if_neg (by omega)]
  rw [if_neg (by omega)]

set_option maxHeartbeats 2000000 in
set_option maxRecDepth 20000 in
theorem con_M_again_17 (l : Launch) (Z : ZZ) (h : Nat) (q : Nat → Nat) (S : St) : Con l Z yM_again cM_again 3 none 0 [.ref h, .ref (q 17)] (wM Z h q S) (Fn none (wM Z h q (up S (S 17)))) := by
  refine Con.of (by decide) (Nat.le_of_ble_eq_true rfl) (fun X hX hQ => ?_)
  show G X Z (wM Z h q S) 0 [(0, .ref h), (1, .ref (q 17))] []
  refine g_iconst (v := 0) hX dM_again_0 (by decide) ?_
  refine g_istore_n (lv1 := [(0, .ref h), (1, .ref (q 17)), (2, .int 0)]) hX dM_again_1 (by decide) [1, 2, 0] rfl ?_
  have hL_2 : ∀ r0, r0 ≤ 6 → ∀ (Tr0 : St), AG Tr0 S (S 17) (fun k j => (k = 0 ∨ k = 1 ∨ k = 11) ∧ j < r0) → G X Z (wM Z h q Tr0) 2 [(0, .ref h), (1, .ref (q 17)), (2, .int (nI r0))] [] := by
    refine loopUp _ 6 ?_ (fun r0 hi_r0 ih_r0 => ?_)
    · intro Tr0 hq_r0
      refine g_iload_n hX dM_again_2 2 rfl ?_
      refine g_bipush (v := 6) hX dM_again_3 (by decide) ?_
      refine g_icmp_ge hX 47 dM_again_5 (by decide) (fun c_5 => ?_) (fun c_5 => absurd (nI_le (a := 6) (b := 6) (Nat.le_refl _) (by omega)) c_5)
      refine g_iconst (v := 0) hX dM_again_47 (by decide) ?_
      refine g_istore_n (lv1 := [(0, .ref h), (1, .ref (q 17)), (2, .int 0)]) hX dM_again_48 (by decide) [1, 2, 0] rfl ?_
      have hL_49 : ∀ r1, r1 ≤ 7 → ∀ (Tr1 : St), AG Tr1 S (S 17) (fun k j => (k = 0 ∨ k = 1 ∨ k = 11) ∧ j < 6 ∨ (2 ≤ k ∧ k ≤ 6) ∧ j < r1) → G X Z (wM Z h q Tr1) 49 [(0, .ref h), (1, .ref (q 17)), (2, .int (nI r1))] [] := by
        refine loopUp _ 7 ?_ (fun r1 hi_r1 ih_r1 => ?_)
        · intro Tr1 hq_r1
          refine g_iload_n hX dM_again_49 2 rfl ?_
          refine g_bipush (v := 7) hX dM_again_50 (by decide) ?_
          refine g_icmp_ge hX 121 dM_again_52 (by decide) (fun c_52 => ?_) (fun c_52 => absurd (nI_le (a := 7) (b := 7) (Nat.le_refl _) (by omega)) c_52)
          refine g_iconst (v := 0) hX dM_again_121 (by decide) ?_
          refine g_istore_n (lv1 := [(0, .ref h), (1, .ref (q 17)), (2, .int 0)]) hX dM_again_122 (by decide) [1, 2, 0] rfl ?_
          have hL_123 : ∀ r2, r2 ≤ 5 → ∀ (Tr2 : St), AG Tr2 S (S 17) (fun k j => (k = 0 ∨ k = 1 ∨ k = 11) ∧ j < 6 ∨ (2 ≤ k ∧ k ≤ 6) ∧ j < 7 ∨ (7 ≤ k ∧ k ≤ 10) ∧ j < r2) → G X Z (wM Z h q Tr2) 123 [(0, .ref h), (1, .ref (q 17)), (2, .int (nI r2))] [] := by
            refine loopUp _ 5 ?_ (fun r2 hi_r2 ih_r2 => ?_)
            · intro Tr2 hq_r2
              refine g_iload_n hX dM_again_123 2 rfl ?_
              refine g_iconst (v := 5) hX dM_again_124 (by decide) ?_
              refine g_icmp_ge hX 182 dM_again_125 (by decide) (fun c_125 => ?_) (fun c_125 => absurd (nI_le (a := 5) (b := 5) (Nat.le_refl _) (by omega)) c_125)
              refine g_aload_n hX dM_again_182 0 rfl ?_
              refine g_aload_n hX dM_again_183 1 rfl ?_
              refine g_bipush (v := 73) hX dM_again_184 (by decide) ?_
              refine g_ald (v := (S 17 73)) hX 17 rfl 73 (by omega) (by decide) (rfl) (by first | exact hq_r2.kk (by decide) _ | (simp only [sw_ne, ne_eq, Nat.reduceEqDiff, not_false_eq_true]; exact hq_r2.kk (by decide) _)) dM_again_186 ?_
              refine g_put (ws1 := wM Z h q (sw Tr2 12 0 (S 17 73))) hX 0 rfl rfl 2 (by decide) uu_M tyF_M tyF_M_ok nmF_M q_586 rfl rfl rfl rfl rfl (Nat.le_of_ble_eq_true rfl) dM_again_187 (fldM_S_12_0 Z h q Tr2 (S 17 73)) ?_
              refine g_aload_n hX dM_again_190 0 rfl ?_
              refine g_aload_n hX dM_again_191 1 rfl ?_
              refine g_bipush (v := 74) hX dM_again_192 (by decide) ?_
              refine g_ald (v := (S 17 74)) hX 17 rfl 74 (by omega) (by decide) (rfl) (by first | exact hq_r2.kk (by decide) _ | (simp only [sw_ne, ne_eq, Nat.reduceEqDiff, not_false_eq_true]; exact hq_r2.kk (by decide) _)) dM_again_194 ?_
              refine g_put (ws1 := wM Z h q (sw (sw Tr2 12 0 (S 17 73)) 12 1 (S 17 74))) hX 0 rfl rfl 8 (by decide) uu_M tyF_M tyF_M_ok nmF_M q_592 rfl rfl rfl rfl rfl (Nat.le_of_ble_eq_true rfl) dM_again_195 (fldM_S_12_1 Z h q (sw Tr2 12 0 (S 17 73)) (S 17 74)) ?_
              refine g_aload_n hX dM_again_198 0 rfl ?_
              refine g_aload_n hX dM_again_199 1 rfl ?_
              refine g_bipush (v := 75) hX dM_again_200 (by decide) ?_
              refine g_ald (v := (S 17 75)) hX 17 rfl 75 (by omega) (by decide) (rfl) (by first | exact hq_r2.kk (by decide) _ | (simp only [sw_ne, ne_eq, Nat.reduceEqDiff, not_false_eq_true]; exact hq_r2.kk (by decide) _)) dM_again_202 ?_
              refine g_put (ws1 := wM Z h q (sw (sw (sw Tr2 12 0 (S 17 73)) 12 1 (S 17 74)) 12 2 (S 17 75))) hX 0 rfl rfl 13 (by decide) uu_M tyF_M tyF_M_ok nmF_M q_597 rfl rfl rfl rfl rfl (Nat.le_of_ble_eq_true rfl) dM_again_203 (fldM_S_12_2 Z h q (sw (sw Tr2 12 0 (S 17 73)) 12 1 (S 17 74)) (S 17 75)) ?_
              refine g_aload_n hX dM_again_206 0 rfl ?_
              refine g_aload_n hX dM_again_207 1 rfl ?_
              refine g_bipush (v := 76) hX dM_again_208 (by decide) ?_
              refine g_ald (v := (S 17 76)) hX 17 rfl 76 (by omega) (by decide) (rfl) (by first | exact hq_r2.kk (by decide) _ | (simp only [sw_ne, ne_eq, Nat.reduceEqDiff, not_false_eq_true]; exact hq_r2.kk (by decide) _)) dM_again_210 ?_
              refine g_put (ws1 := wM Z h q (sw (sw (sw (sw Tr2 12 0 (S 17 73)) 12 1 (S 17 74)) 12 2 (S 17 75)) 12 3 (S 17 76))) hX 0 rfl rfl 15 (by decide) uu_M tyF_M tyF_M_ok nmF_M q_599 rfl rfl rfl rfl rfl (Nat.le_of_ble_eq_true rfl) dM_again_211 (fldM_S_12_3 Z h q (sw (sw (sw Tr2 12 0 (S 17 73)) 12 1 (S 17 74)) 12 2 (S 17 75)) (S 17 76)) ?_
              refine g_eq (ws1 := wM Z h q (up S (S 17))) (congrArg (wM Z h q) (AG.all (AG.put (Q' := fun k j => (k = 0 ∨ k = 1 ∨ k = 11) ∧ j < 6 ∨ (2 ≤ k ∧ k ≤ 6) ∧ j < 7 ∨ (7 ≤ k ∧ k ≤ 10) ∧ j < 5 ∨ k = 12 ∧ j = 0 ∨ k = 12 ∧ j = 1 ∨ k = 12 ∧ j = 2 ∨ k = 12 ∧ j = 3) (AG.put (Q' := fun k j => (k = 0 ∨ k = 1 ∨ k = 11) ∧ j < 6 ∨ (2 ≤ k ∧ k ≤ 6) ∧ j < 7 ∨ (7 ≤ k ∧ k ≤ 10) ∧ j < 5 ∨ k = 12 ∧ j = 0 ∨ k = 12 ∧ j = 1 ∨ k = 12 ∧ j = 2) (AG.put (Q' := fun k j => (k = 0 ∨ k = 1 ∨ k = 11) ∧ j < 6 ∨ (2 ≤ k ∧ k ≤ 6) ∧ j < 7 ∨ (7 ≤ k ∧ k ≤ 10) ∧ j < 5 ∨ k = 12 ∧ j = 0 ∨ k = 12 ∧ j = 1) (AG.put (Q' := fun k j => (k = 0 ∨ k = 1 ∨ k = 11) ∧ j < 6 ∨ (2 ≤ k ∧ k ≤ 6) ∧ j < 7 ∨ (7 ≤ k ∧ k ≤ 10) ∧ j < 5 ∨ k = 12 ∧ j = 0) hq_r2 12 0 (v := S 17 73) (up_12 (j := 0) S _ (by decide)).symm (fun k j => by omega)) 12 1 (v := S 17 74) (up_12 (j := 1) S _ (by decide)).symm (fun k j => by omega)) 12 2 (v := S 17 75) (up_12 (j := 2) S _ (by decide)).symm (fun k j => by omega)) 12 3 (v := S 17 76) (up_12 (j := 3) S _ (by decide)).symm (fun k j => by omega)) (fun k j hz => up_else S _ (by omega)))) rfl rfl ?_
              exact r_vret hX hQ dM_again_214 keysM (⟨rfl, rfl⟩)
            · intro Tr2 hq_r2
              refine g_iload_n hX dM_again_123 2 rfl ?_
              refine g_iconst (v := 5) hX dM_again_124 (by decide) ?_
              refine g_icmp_ge hX 182 dM_again_125 (by decide) (fun c_125 => absurd c_125 (nI_ge (a := r2) (b := 5) hi_r2 (by omega))) (fun c_125 => ?_)
              refine g_aload_n hX dM_again_128 0 rfl ?_
              refine g_get hX 0 rfl rfl 9 (by decide) uu_M q_593 rfl rfl dM_again_129 ?_
              refine g_iload_n hX dM_again_132 2 rfl ?_
              refine g_aload_n hX dM_again_133 1 rfl ?_
              refine g_bipush (v := 47) hX dM_again_134 (by decide) ?_
              refine g_iload_n hX dM_again_136 2 rfl ?_
              refine g_iadd (z := (nI (47 + r2))) hX dM_again_137 (nI_add 47 r2) ?_
              refine g_ald (v := (S 17 (47 + r2))) hX 17 rfl (47 + r2) (by omega) (by decide) (rfl) (by first | exact hq_r2.kk (by decide) _ | (simp only [sw_ne, ne_eq, Nat.reduceEqDiff, not_false_eq_true]; exact hq_r2.kk (by decide) _)) dM_again_138 ?_
              refine g_ast (ws1 := wM Z h q (sw Tr2 7 r2 (S 17 (47 + r2)))) hX 8 rfl r2 (by omega) (by decide) (rfl) dM_again_139 (setM_S_7 Z h q Tr2 r2 (S 17 (47 + r2))) ?_
              refine g_aload_n hX dM_again_140 0 rfl ?_
              refine g_get hX 0 rfl rfl 10 (by decide) uu_M q_594 rfl rfl dM_again_141 ?_
              refine g_iload_n hX dM_again_144 2 rfl ?_
              refine g_aload_n hX dM_again_145 1 rfl ?_
              refine g_bipush (v := 52) hX dM_again_146 (by decide) ?_
              refine g_iload_n hX dM_again_148 2 rfl ?_
              refine g_iadd (z := (nI (52 + r2))) hX dM_again_149 (nI_add 52 r2) ?_
              refine g_ald (v := (S 17 (52 + r2))) hX 17 rfl (52 + r2) (by omega) (by decide) (rfl) (by first | exact hq_r2.kk (by decide) _ | (simp only [sw_ne, ne_eq, Nat.reduceEqDiff, not_false_eq_true]; exact hq_r2.kk (by decide) _)) dM_again_150 ?_
              refine g_ast (ws1 := wM Z h q (sw (sw Tr2 7 r2 (S 17 (47 + r2))) 8 r2 (S 17 (52 + r2)))) hX 9 rfl r2 (by omega) (by decide) (rfl) dM_again_151 (setM_S_8 Z h q (sw Tr2 7 r2 (S 17 (47 + r2))) r2 (S 17 (52 + r2))) ?_
              refine g_aload_n hX dM_again_152 0 rfl ?_
              refine g_get hX 0 rfl rfl 11 (by decide) uu_M q_595 rfl rfl dM_again_153 ?_
              refine g_iload_n hX dM_again_156 2 rfl ?_
              refine g_aload_n hX dM_again_157 1 rfl ?_
              refine g_bipush (v := 57) hX dM_again_158 (by decide) ?_
              refine g_iload_n hX dM_again_160 2 rfl ?_
              refine g_iadd (z := (nI (57 + r2))) hX dM_again_161 (nI_add 57 r2) ?_
              refine g_ald (v := (S 17 (57 + r2))) hX 17 rfl (57 + r2) (by omega) (by decide) (rfl) (by first | exact hq_r2.kk (by decide) _ | (simp only [sw_ne, ne_eq, Nat.reduceEqDiff, not_false_eq_true]; exact hq_r2.kk (by decide) _)) dM_again_162 ?_
              refine g_ast (ws1 := wM Z h q (sw (sw (sw Tr2 7 r2 (S 17 (47 + r2))) 8 r2 (S 17 (52 + r2))) 9 r2 (S 17 (57 + r2)))) hX 10 rfl r2 (by omega) (by decide) (rfl) dM_again_163 (setM_S_9 Z h q (sw (sw Tr2 7 r2 (S 17 (47 + r2))) 8 r2 (S 17 (52 + r2))) r2 (S 17 (57 + r2))) ?_
              refine g_aload_n hX dM_again_164 0 rfl ?_
              refine g_get hX 0 rfl rfl 12 (by decide) uu_M q_596 rfl rfl dM_again_165 ?_
              refine g_iload_n hX dM_again_168 2 rfl ?_
              refine g_aload_n hX dM_again_169 1 rfl ?_
              refine g_bipush (v := 62) hX dM_again_170 (by decide) ?_
              refine g_iload_n hX dM_again_172 2 rfl ?_
              refine g_iadd (z := (nI (62 + r2))) hX dM_again_173 (nI_add 62 r2) ?_
              refine g_ald (v := (S 17 (62 + r2))) hX 17 rfl (62 + r2) (by omega) (by decide) (rfl) (by first | exact hq_r2.kk (by decide) _ | (simp only [sw_ne, ne_eq, Nat.reduceEqDiff, not_false_eq_true]; exact hq_r2.kk (by decide) _)) dM_again_174 ?_
              refine g_ast (ws1 := wM Z h q (sw (sw (sw (sw Tr2 7 r2 (S 17 (47 + r2))) 8 r2 (S 17 (52 + r2))) 9 r2 (S 17 (57 + r2))) 10 r2 (S 17 (62 + r2)))) hX 11 rfl r2 (by omega) (by decide) (rfl) dM_again_175 (setM_S_10 Z h q (sw (sw (sw Tr2 7 r2 (S 17 (47 + r2))) 8 r2 (S 17 (52 + r2))) 9 r2 (S 17 (57 + r2))) r2 (S 17 (62 + r2))) ?_
              refine g_iinc (v := (nI (r2 + 1))) (lv1 := [(0, .ref h), (1, .ref (q 17)), (2, .int (nI (r2 + 1)))]) hX dM_again_176 2 rfl (inc_nat _) (by decide) [1, 2, 0] rfl ?_
              refine g_goto hX 123 dM_again_179 (by decide) ?_
              exact ih_r2 (sw (sw (sw (sw Tr2 7 r2 (S 17 (47 + r2))) 8 r2 (S 17 (52 + r2))) 9 r2 (S 17 (57 + r2))) 10 r2 (S 17 (62 + r2))) ((AG.put (Q' := fun k j => (k = 0 ∨ k = 1 ∨ k = 11) ∧ j < 6 ∨ (2 ≤ k ∧ k ≤ 6) ∧ j < 7 ∨ (7 ≤ k ∧ k ≤ 10) ∧ j < (r2 + 1)) (AG.put (Q' := fun k j => (k = 0 ∨ k = 1 ∨ k = 11) ∧ j < 6 ∨ (2 ≤ k ∧ k ≤ 6) ∧ j < 7 ∨ (7 ≤ k ∧ k ≤ 10) ∧ j < r2 ∨ k = 7 ∧ j = r2 ∨ k = 8 ∧ j = r2 ∨ k = 9 ∧ j = r2) (AG.put (Q' := fun k j => (k = 0 ∨ k = 1 ∨ k = 11) ∧ j < 6 ∨ (2 ≤ k ∧ k ≤ 6) ∧ j < 7 ∨ (7 ≤ k ∧ k ≤ 10) ∧ j < r2 ∨ k = 7 ∧ j = r2 ∨ k = 8 ∧ j = r2) (AG.put (Q' := fun k j => (k = 0 ∨ k = 1 ∨ k = 11) ∧ j < 6 ∨ (2 ≤ k ∧ k ≤ 6) ∧ j < 7 ∨ (7 ≤ k ∧ k ≤ 10) ∧ j < r2 ∨ k = 7 ∧ j = r2) hq_r2 7 r2 (v := S 17 (47 + r2)) (by rw [up_7 S _ (by omega)]) (fun k j => by omega)) 8 r2 (v := S 17 (52 + r2)) (by rw [up_8 S _ (by omega)]) (fun k j => by omega)) 9 r2 (v := S 17 (57 + r2)) (by rw [up_9 S _ (by omega)]) (fun k j => by omega)) 10 r2 (v := S 17 (62 + r2)) (by rw [up_10 S _ (by omega)]) (fun k j => by omega)))
          exact hL_123 0 (Nat.zero_le _) Tr1 (hq_r1.mono (fun k j => by omega))
        · intro Tr1 hq_r1
          refine g_iload_n hX dM_again_49 2 rfl ?_
          refine g_bipush (v := 7) hX dM_again_50 (by decide) ?_
          refine g_icmp_ge hX 121 dM_again_52 (by decide) (fun c_52 => absurd c_52 (nI_ge (a := r1) (b := 7) hi_r1 (by omega))) (fun c_52 => ?_)
          refine g_aload_n hX dM_again_55 0 rfl ?_
          refine g_get hX 0 rfl rfl 3 (by decide) uu_M q_587 rfl rfl dM_again_56 ?_
          refine g_iload_n hX dM_again_59 2 rfl ?_
          refine g_aload_n hX dM_again_60 1 rfl ?_
          refine g_bipush (v := 12) hX dM_again_61 (by decide) ?_
          refine g_iload_n hX dM_again_63 2 rfl ?_
          refine g_iadd (z := (nI (12 + r1))) hX dM_again_64 (nI_add 12 r1) ?_
          refine g_ald (v := (S 17 (12 + r1))) hX 17 rfl (12 + r1) (by omega) (by decide) (rfl) (by first | exact hq_r1.kk (by decide) _ | (simp only [sw_ne, ne_eq, Nat.reduceEqDiff, not_false_eq_true]; exact hq_r1.kk (by decide) _)) dM_again_65 ?_
          refine g_ast (ws1 := wM Z h q (sw Tr1 2 r1 (S 17 (12 + r1)))) hX 3 rfl r1 (by omega) (by decide) (rfl) dM_again_66 (setM_S_2 Z h q Tr1 r1 (S 17 (12 + r1))) ?_
          refine g_aload_n hX dM_again_67 0 rfl ?_
          refine g_get hX 0 rfl rfl 4 (by decide) uu_M q_588 rfl rfl dM_again_68 ?_
          refine g_iload_n hX dM_again_71 2 rfl ?_
          refine g_aload_n hX dM_again_72 1 rfl ?_
          refine g_bipush (v := 19) hX dM_again_73 (by decide) ?_
          refine g_iload_n hX dM_again_75 2 rfl ?_
          refine g_iadd (z := (nI (19 + r1))) hX dM_again_76 (nI_add 19 r1) ?_
          refine g_ald (v := (S 17 (19 + r1))) hX 17 rfl (19 + r1) (by omega) (by decide) (rfl) (by first | exact hq_r1.kk (by decide) _ | (simp only [sw_ne, ne_eq, Nat.reduceEqDiff, not_false_eq_true]; exact hq_r1.kk (by decide) _)) dM_again_77 ?_
          refine g_ast (ws1 := wM Z h q (sw (sw Tr1 2 r1 (S 17 (12 + r1))) 3 r1 (S 17 (19 + r1)))) hX 4 rfl r1 (by omega) (by decide) (rfl) dM_again_78 (setM_S_3 Z h q (sw Tr1 2 r1 (S 17 (12 + r1))) r1 (S 17 (19 + r1))) ?_
          refine g_aload_n hX dM_again_79 0 rfl ?_
          refine g_get hX 0 rfl rfl 5 (by decide) uu_M q_589 rfl rfl dM_again_80 ?_
          refine g_iload_n hX dM_again_83 2 rfl ?_
          refine g_aload_n hX dM_again_84 1 rfl ?_
          refine g_bipush (v := 26) hX dM_again_85 (by decide) ?_
          refine g_iload_n hX dM_again_87 2 rfl ?_
          refine g_iadd (z := (nI (26 + r1))) hX dM_again_88 (nI_add 26 r1) ?_
          refine g_ald (v := (S 17 (26 + r1))) hX 17 rfl (26 + r1) (by omega) (by decide) (rfl) (by first | exact hq_r1.kk (by decide) _ | (simp only [sw_ne, ne_eq, Nat.reduceEqDiff, not_false_eq_true]; exact hq_r1.kk (by decide) _)) dM_again_89 ?_
          refine g_ast (ws1 := wM Z h q (sw (sw (sw Tr1 2 r1 (S 17 (12 + r1))) 3 r1 (S 17 (19 + r1))) 4 r1 (S 17 (26 + r1)))) hX 5 rfl r1 (by omega) (by decide) (rfl) dM_again_90 (setM_S_4 Z h q (sw (sw Tr1 2 r1 (S 17 (12 + r1))) 3 r1 (S 17 (19 + r1))) r1 (S 17 (26 + r1))) ?_
          refine g_aload_n hX dM_again_91 0 rfl ?_
          refine g_get hX 0 rfl rfl 6 (by decide) uu_M q_590 rfl rfl dM_again_92 ?_
          refine g_iload_n hX dM_again_95 2 rfl ?_
          refine g_aload_n hX dM_again_96 1 rfl ?_
          refine g_bipush (v := 33) hX dM_again_97 (by decide) ?_
          refine g_iload_n hX dM_again_99 2 rfl ?_
          refine g_iadd (z := (nI (33 + r1))) hX dM_again_100 (nI_add 33 r1) ?_
          refine g_ald (v := (S 17 (33 + r1))) hX 17 rfl (33 + r1) (by omega) (by decide) (rfl) (by first | exact hq_r1.kk (by decide) _ | (simp only [sw_ne, ne_eq, Nat.reduceEqDiff, not_false_eq_true]; exact hq_r1.kk (by decide) _)) dM_again_101 ?_
          refine g_ast (ws1 := wM Z h q (sw (sw (sw (sw Tr1 2 r1 (S 17 (12 + r1))) 3 r1 (S 17 (19 + r1))) 4 r1 (S 17 (26 + r1))) 5 r1 (S 17 (33 + r1)))) hX 6 rfl r1 (by omega) (by decide) (rfl) dM_again_102 (setM_S_5 Z h q (sw (sw (sw Tr1 2 r1 (S 17 (12 + r1))) 3 r1 (S 17 (19 + r1))) 4 r1 (S 17 (26 + r1))) r1 (S 17 (33 + r1))) ?_
          refine g_aload_n hX dM_again_103 0 rfl ?_
          refine g_get hX 0 rfl rfl 7 (by decide) uu_M q_591 rfl rfl dM_again_104 ?_
          refine g_iload_n hX dM_again_107 2 rfl ?_
          refine g_aload_n hX dM_again_108 1 rfl ?_
          refine g_bipush (v := 40) hX dM_again_109 (by decide) ?_
          refine g_iload_n hX dM_again_111 2 rfl ?_
          refine g_iadd (z := (nI (40 + r1))) hX dM_again_112 (nI_add 40 r1) ?_
          refine g_ald (v := (S 17 (40 + r1))) hX 17 rfl (40 + r1) (by omega) (by decide) (rfl) (by first | exact hq_r1.kk (by decide) _ | (simp only [sw_ne, ne_eq, Nat.reduceEqDiff, not_false_eq_true]; exact hq_r1.kk (by decide) _)) dM_again_113 ?_
          refine g_ast (ws1 := wM Z h q (sw (sw (sw (sw (sw Tr1 2 r1 (S 17 (12 + r1))) 3 r1 (S 17 (19 + r1))) 4 r1 (S 17 (26 + r1))) 5 r1 (S 17 (33 + r1))) 6 r1 (S 17 (40 + r1)))) hX 7 rfl r1 (by omega) (by decide) (rfl) dM_again_114 (setM_S_6 Z h q (sw (sw (sw (sw Tr1 2 r1 (S 17 (12 + r1))) 3 r1 (S 17 (19 + r1))) 4 r1 (S 17 (26 + r1))) 5 r1 (S 17 (33 + r1))) r1 (S 17 (40 + r1))) ?_
          refine g_iinc (v := (nI (r1 + 1))) (lv1 := [(0, .ref h), (1, .ref (q 17)), (2, .int (nI (r1 + 1)))]) hX dM_again_115 2 rfl (inc_nat _) (by decide) [1, 2, 0] rfl ?_
          refine g_goto hX 49 dM_again_118 (by decide) ?_
          exact ih_r1 (sw (sw (sw (sw (sw Tr1 2 r1 (S 17 (12 + r1))) 3 r1 (S 17 (19 + r1))) 4 r1 (S 17 (26 + r1))) 5 r1 (S 17 (33 + r1))) 6 r1 (S 17 (40 + r1))) ((AG.put (Q' := fun k j => (k = 0 ∨ k = 1 ∨ k = 11) ∧ j < 6 ∨ (2 ≤ k ∧ k ≤ 6) ∧ j < (r1 + 1)) (AG.put (Q' := fun k j => (k = 0 ∨ k = 1 ∨ k = 11) ∧ j < 6 ∨ (2 ≤ k ∧ k ≤ 6) ∧ j < r1 ∨ k = 2 ∧ j = r1 ∨ k = 3 ∧ j = r1 ∨ k = 4 ∧ j = r1 ∨ k = 5 ∧ j = r1) (AG.put (Q' := fun k j => (k = 0 ∨ k = 1 ∨ k = 11) ∧ j < 6 ∨ (2 ≤ k ∧ k ≤ 6) ∧ j < r1 ∨ k = 2 ∧ j = r1 ∨ k = 3 ∧ j = r1 ∨ k = 4 ∧ j = r1) (AG.put (Q' := fun k j => (k = 0 ∨ k = 1 ∨ k = 11) ∧ j < 6 ∨ (2 ≤ k ∧ k ≤ 6) ∧ j < r1 ∨ k = 2 ∧ j = r1 ∨ k = 3 ∧ j = r1) (AG.put (Q' := fun k j => (k = 0 ∨ k = 1 ∨ k = 11) ∧ j < 6 ∨ (2 ≤ k ∧ k ≤ 6) ∧ j < r1 ∨ k = 2 ∧ j = r1) hq_r1 2 r1 (v := S 17 (12 + r1)) (by rw [up_2 S _ (by omega)]) (fun k j => by omega)) 3 r1 (v := S 17 (19 + r1)) (by rw [up_3 S _ (by omega)]) (fun k j => by omega)) 4 r1 (v := S 17 (26 + r1)) (by rw [up_4 S _ (by omega)]) (fun k j => by omega)) 5 r1 (v := S 17 (33 + r1)) (by rw [up_5 S _ (by omega)]) (fun k j => by omega)) 6 r1 (v := S 17 (40 + r1)) (by rw [up_6 S _ (by omega)]) (fun k j => by omega)))
      exact hL_49 0 (Nat.zero_le _) Tr0 (hq_r0.mono (fun k j => by omega))
    · intro Tr0 hq_r0
      refine g_iload_n hX dM_again_2 2 rfl ?_
      refine g_bipush (v := 6) hX dM_again_3 (by decide) ?_
      refine g_icmp_ge hX 47 dM_again_5 (by decide) (fun c_5 => absurd c_5 (nI_ge (a := r0) (b := 6) hi_r0 (by omega))) (fun c_5 => ?_)
      refine g_aload_n hX dM_again_8 0 rfl ?_
      refine g_get hX 0 rfl rfl 0 (by decide) uu_M q_584 rfl rfl dM_again_9 ?_
      refine g_iload_n hX dM_again_12 2 rfl ?_
      refine g_aload_n hX dM_again_13 1 rfl ?_
      refine g_iload_n hX dM_again_14 2 rfl ?_
      refine g_ald (v := (S 17 r0)) hX 17 rfl r0 (by omega) (by decide) (rfl) (by first | exact hq_r0.kk (by decide) _ | (simp only [sw_ne, ne_eq, Nat.reduceEqDiff, not_false_eq_true]; exact hq_r0.kk (by decide) _)) dM_again_15 ?_
      refine g_ast (ws1 := wM Z h q (sw Tr0 0 r0 (S 17 r0))) hX 1 rfl r0 (by omega) (by decide) (rfl) dM_again_16 (setM_S_0 Z h q Tr0 r0 (S 17 r0)) ?_
      refine g_aload_n hX dM_again_17 0 rfl ?_
      refine g_get hX 0 rfl rfl 1 (by decide) uu_M q_585 rfl rfl dM_again_18 ?_
      refine g_iload_n hX dM_again_21 2 rfl ?_
      refine g_aload_n hX dM_again_22 1 rfl ?_
      refine g_bipush (v := 6) hX dM_again_23 (by decide) ?_
      refine g_iload_n hX dM_again_25 2 rfl ?_
      refine g_iadd (z := (nI (6 + r0))) hX dM_again_26 (nI_add 6 r0) ?_
      refine g_ald (v := (S 17 (6 + r0))) hX 17 rfl (6 + r0) (by omega) (by decide) (rfl) (by first | exact hq_r0.kk (by decide) _ | (simp only [sw_ne, ne_eq, Nat.reduceEqDiff, not_false_eq_true]; exact hq_r0.kk (by decide) _)) dM_again_27 ?_
      refine g_ast (ws1 := wM Z h q (sw (sw Tr0 0 r0 (S 17 r0)) 1 r0 (S 17 (6 + r0)))) hX 2 rfl r0 (by omega) (by decide) (rfl) dM_again_28 (setM_S_1 Z h q (sw Tr0 0 r0 (S 17 r0)) r0 (S 17 (6 + r0))) ?_
      refine g_aload_n hX dM_again_29 0 rfl ?_
      refine g_get hX 0 rfl rfl 14 (by decide) uu_M q_598 rfl rfl dM_again_30 ?_
      refine g_iload_n hX dM_again_33 2 rfl ?_
      refine g_aload_n hX dM_again_34 1 rfl ?_
      refine g_bipush (v := 67) hX dM_again_35 (by decide) ?_
      refine g_iload_n hX dM_again_37 2 rfl ?_
      refine g_iadd (z := (nI (67 + r0))) hX dM_again_38 (nI_add 67 r0) ?_
      refine g_ald (v := (S 17 (67 + r0))) hX 17 rfl (67 + r0) (by omega) (by decide) (rfl) (by first | exact hq_r0.kk (by decide) _ | (simp only [sw_ne, ne_eq, Nat.reduceEqDiff, not_false_eq_true]; exact hq_r0.kk (by decide) _)) dM_again_39 ?_
      refine g_ast (ws1 := wM Z h q (sw (sw (sw Tr0 0 r0 (S 17 r0)) 1 r0 (S 17 (6 + r0))) 11 r0 (S 17 (67 + r0)))) hX 12 rfl r0 (by omega) (by decide) (rfl) dM_again_40 (setM_S_11 Z h q (sw (sw Tr0 0 r0 (S 17 r0)) 1 r0 (S 17 (6 + r0))) r0 (S 17 (67 + r0))) ?_
      refine g_iinc (v := (nI (r0 + 1))) (lv1 := [(0, .ref h), (1, .ref (q 17)), (2, .int (nI (r0 + 1)))]) hX dM_again_41 2 rfl (inc_nat _) (by decide) [1, 2, 0] rfl ?_
      refine g_goto hX 2 dM_again_44 (by decide) ?_
      exact ih_r0 (sw (sw (sw Tr0 0 r0 (S 17 r0)) 1 r0 (S 17 (6 + r0))) 11 r0 (S 17 (67 + r0))) ((AG.put (Q' := fun k j => (k = 0 ∨ k = 1 ∨ k = 11) ∧ j < (r0 + 1)) (AG.put (Q' := fun k j => (k = 0 ∨ k = 1 ∨ k = 11) ∧ j < r0 ∨ k = 0 ∧ j = r0 ∨ k = 1 ∧ j = r0) (AG.put (Q' := fun k j => (k = 0 ∨ k = 1 ∨ k = 11) ∧ j < r0 ∨ k = 0 ∧ j = r0) hq_r0 0 r0 (v := S 17 r0) (by rw [up_0 S _ (by omega), Nat.zero_add]) (fun k j => by omega)) 1 r0 (v := S 17 (6 + r0)) (by rw [up_1 S _ (by omega)]) (fun k j => by omega)) 11 r0 (v := S 17 (67 + r0)) (by rw [up_11 S _ (by omega)]) (fun k j => by omega)))
  exact hL_2 0 (Nat.zero_le _) S (fun k j => ⟨fun z => by omega, fun _ => rfl⟩)
set_option maxHeartbeats 2000000 in
set_option maxRecDepth 20000 in
theorem con_M_again_18 (l : Launch) (Z : ZZ) (h : Nat) (q : Nat → Nat) (S : St) : Con l Z yM_again cM_again 3 none 0 [.ref h, .ref (q 18)] (wM Z h q S) (Fn none (wM Z h q (up S (S 18)))) := by
  refine Con.of (by decide) (Nat.le_of_ble_eq_true rfl) (fun X hX hQ => ?_)
  show G X Z (wM Z h q S) 0 [(0, .ref h), (1, .ref (q 18))] []
  refine g_iconst (v := 0) hX dM_again_0 (by decide) ?_
  refine g_istore_n (lv1 := [(0, .ref h), (1, .ref (q 18)), (2, .int 0)]) hX dM_again_1 (by decide) [1, 2, 0] rfl ?_
  have hL_2 : ∀ r0, r0 ≤ 6 → ∀ (Tr0 : St), AG Tr0 S (S 18) (fun k j => (k = 0 ∨ k = 1 ∨ k = 11) ∧ j < r0) → G X Z (wM Z h q Tr0) 2 [(0, .ref h), (1, .ref (q 18)), (2, .int (nI r0))] [] := by
    refine loopUp _ 6 ?_ (fun r0 hi_r0 ih_r0 => ?_)
    · intro Tr0 hq_r0
      refine g_iload_n hX dM_again_2 2 rfl ?_
      refine g_bipush (v := 6) hX dM_again_3 (by decide) ?_
      refine g_icmp_ge hX 47 dM_again_5 (by decide) (fun c_5 => ?_) (fun c_5 => absurd (nI_le (a := 6) (b := 6) (Nat.le_refl _) (by omega)) c_5)
      refine g_iconst (v := 0) hX dM_again_47 (by decide) ?_
      refine g_istore_n (lv1 := [(0, .ref h), (1, .ref (q 18)), (2, .int 0)]) hX dM_again_48 (by decide) [1, 2, 0] rfl ?_
      have hL_49 : ∀ r1, r1 ≤ 7 → ∀ (Tr1 : St), AG Tr1 S (S 18) (fun k j => (k = 0 ∨ k = 1 ∨ k = 11) ∧ j < 6 ∨ (2 ≤ k ∧ k ≤ 6) ∧ j < r1) → G X Z (wM Z h q Tr1) 49 [(0, .ref h), (1, .ref (q 18)), (2, .int (nI r1))] [] := by
        refine loopUp _ 7 ?_ (fun r1 hi_r1 ih_r1 => ?_)
        · intro Tr1 hq_r1
          refine g_iload_n hX dM_again_49 2 rfl ?_
          refine g_bipush (v := 7) hX dM_again_50 (by decide) ?_
          refine g_icmp_ge hX 121 dM_again_52 (by decide) (fun c_52 => ?_) (fun c_52 => absurd (nI_le (a := 7) (b := 7) (Nat.le_refl _) (by omega)) c_52)
          refine g_iconst (v := 0) hX dM_again_121 (by decide) ?_
          refine g_istore_n (lv1 := [(0, .ref h), (1, .ref (q 18)), (2, .int 0)]) hX dM_again_122 (by decide) [1, 2, 0] rfl ?_
          have hL_123 : ∀ r2, r2 ≤ 5 → ∀ (Tr2 : St), AG Tr2 S (S 18) (fun k j => (k = 0 ∨ k = 1 ∨ k = 11) ∧ j < 6 ∨ (2 ≤ k ∧ k ≤ 6) ∧ j < 7 ∨ (7 ≤ k ∧ k ≤ 10) ∧ j < r2) → G X Z (wM Z h q Tr2) 123 [(0, .ref h), (1, .ref (q 18)), (2, .int (nI r2))] [] := by
            refine loopUp _ 5 ?_ (fun r2 hi_r2 ih_r2 => ?_)
            · intro Tr2 hq_r2
              refine g_iload_n hX dM_again_123 2 rfl ?_
              refine g_iconst (v := 5) hX dM_again_124 (by decide) ?_
              refine g_icmp_ge hX 182 dM_again_125 (by decide) (fun c_125 => ?_) (fun c_125 => absurd (nI_le (a := 5) (b := 5) (Nat.le_refl _) (by omega)) c_125)
              refine g_aload_n hX dM_again_182 0 rfl ?_
              refine g_aload_n hX dM_again_183 1 rfl ?_
              refine g_bipush (v := 73) hX dM_again_184 (by decide) ?_
              refine g_ald (v := (S 18 73)) hX 18 rfl 73 (by omega) (by decide) (rfl) (by first | exact hq_r2.kk (by decide) _ | (simp only [sw_ne, ne_eq, Nat.reduceEqDiff, not_false_eq_true]; exact hq_r2.kk (by decide) _)) dM_again_186 ?_
              refine g_put (ws1 := wM Z h q (sw Tr2 12 0 (S 18 73))) hX 0 rfl rfl 2 (by decide) uu_M tyF_M tyF_M_ok nmF_M q_586 rfl rfl rfl rfl rfl (Nat.le_of_ble_eq_true rfl) dM_again_187 (fldM_S_12_0 Z h q Tr2 (S 18 73)) ?_
              refine g_aload_n hX dM_again_190 0 rfl ?_
              refine g_aload_n hX dM_again_191 1 rfl ?_
              refine g_bipush (v := 74) hX dM_again_192 (by decide) ?_
              refine g_ald (v := (S 18 74)) hX 18 rfl 74 (by omega) (by decide) (rfl) (by first | exact hq_r2.kk (by decide) _ | (simp only [sw_ne, ne_eq, Nat.reduceEqDiff, not_false_eq_true]; exact hq_r2.kk (by decide) _)) dM_again_194 ?_
              refine g_put (ws1 := wM Z h q (sw (sw Tr2 12 0 (S 18 73)) 12 1 (S 18 74))) hX 0 rfl rfl 8 (by decide) uu_M tyF_M tyF_M_ok nmF_M q_592 rfl rfl rfl rfl rfl (Nat.le_of_ble_eq_true rfl) dM_again_195 (fldM_S_12_1 Z h q (sw Tr2 12 0 (S 18 73)) (S 18 74)) ?_
              refine g_aload_n hX dM_again_198 0 rfl ?_
              refine g_aload_n hX dM_again_199 1 rfl ?_
              refine g_bipush (v := 75) hX dM_again_200 (by decide) ?_
              refine g_ald (v := (S 18 75)) hX 18 rfl 75 (by omega) (by decide) (rfl) (by first | exact hq_r2.kk (by decide) _ | (simp only [sw_ne, ne_eq, Nat.reduceEqDiff, not_false_eq_true]; exact hq_r2.kk (by decide) _)) dM_again_202 ?_
              refine g_put (ws1 := wM Z h q (sw (sw (sw Tr2 12 0 (S 18 73)) 12 1 (S 18 74)) 12 2 (S 18 75))) hX 0 rfl rfl 13 (by decide) uu_M tyF_M tyF_M_ok nmF_M q_597 rfl rfl rfl rfl rfl (Nat.le_of_ble_eq_true rfl) dM_again_203 (fldM_S_12_2 Z h q (sw (sw Tr2 12 0 (S 18 73)) 12 1 (S 18 74)) (S 18 75)) ?_
              refine g_aload_n hX dM_again_206 0 rfl ?_
              refine g_aload_n hX dM_again_207 1 rfl ?_
              refine g_bipush (v := 76) hX dM_again_208 (by decide) ?_
              refine g_ald (v := (S 18 76)) hX 18 rfl 76 (by omega) (by decide) (rfl) (by first | exact hq_r2.kk (by decide) _ | (simp only [sw_ne, ne_eq, Nat.reduceEqDiff, not_false_eq_true]; exact hq_r2.kk (by decide) _)) dM_again_210 ?_
              refine g_put (ws1 := wM Z h q (sw (sw (sw (sw Tr2 12 0 (S 18 73)) 12 1 (S 18 74)) 12 2 (S 18 75)) 12 3 (S 18 76))) hX 0 rfl rfl 15 (by decide) uu_M tyF_M tyF_M_ok nmF_M q_599 rfl rfl rfl rfl rfl (Nat.le_of_ble_eq_true rfl) dM_again_211 (fldM_S_12_3 Z h q (sw (sw (sw Tr2 12 0 (S 18 73)) 12 1 (S 18 74)) 12 2 (S 18 75)) (S 18 76)) ?_
              refine g_eq (ws1 := wM Z h q (up S (S 18))) (congrArg (wM Z h q) (AG.all (AG.put (Q' := fun k j => (k = 0 ∨ k = 1 ∨ k = 11) ∧ j < 6 ∨ (2 ≤ k ∧ k ≤ 6) ∧ j < 7 ∨ (7 ≤ k ∧ k ≤ 10) ∧ j < 5 ∨ k = 12 ∧ j = 0 ∨ k = 12 ∧ j = 1 ∨ k = 12 ∧ j = 2 ∨ k = 12 ∧ j = 3) (AG.put (Q' := fun k j => (k = 0 ∨ k = 1 ∨ k = 11) ∧ j < 6 ∨ (2 ≤ k ∧ k ≤ 6) ∧ j < 7 ∨ (7 ≤ k ∧ k ≤ 10) ∧ j < 5 ∨ k = 12 ∧ j = 0 ∨ k = 12 ∧ j = 1 ∨ k = 12 ∧ j = 2) (AG.put (Q' := fun k j => (k = 0 ∨ k = 1 ∨ k = 11) ∧ j < 6 ∨ (2 ≤ k ∧ k ≤ 6) ∧ j < 7 ∨ (7 ≤ k ∧ k ≤ 10) ∧ j < 5 ∨ k = 12 ∧ j = 0 ∨ k = 12 ∧ j = 1) (AG.put (Q' := fun k j => (k = 0 ∨ k = 1 ∨ k = 11) ∧ j < 6 ∨ (2 ≤ k ∧ k ≤ 6) ∧ j < 7 ∨ (7 ≤ k ∧ k ≤ 10) ∧ j < 5 ∨ k = 12 ∧ j = 0) hq_r2 12 0 (v := S 18 73) (up_12 (j := 0) S _ (by decide)).symm (fun k j => by omega)) 12 1 (v := S 18 74) (up_12 (j := 1) S _ (by decide)).symm (fun k j => by omega)) 12 2 (v := S 18 75) (up_12 (j := 2) S _ (by decide)).symm (fun k j => by omega)) 12 3 (v := S 18 76) (up_12 (j := 3) S _ (by decide)).symm (fun k j => by omega)) (fun k j hz => up_else S _ (by omega)))) rfl rfl ?_
              exact r_vret hX hQ dM_again_214 keysM (⟨rfl, rfl⟩)
            · intro Tr2 hq_r2
              refine g_iload_n hX dM_again_123 2 rfl ?_
              refine g_iconst (v := 5) hX dM_again_124 (by decide) ?_
              refine g_icmp_ge hX 182 dM_again_125 (by decide) (fun c_125 => absurd c_125 (nI_ge (a := r2) (b := 5) hi_r2 (by omega))) (fun c_125 => ?_)
              refine g_aload_n hX dM_again_128 0 rfl ?_
              refine g_get hX 0 rfl rfl 9 (by decide) uu_M q_593 rfl rfl dM_again_129 ?_
              refine g_iload_n hX dM_again_132 2 rfl ?_
              refine g_aload_n hX dM_again_133 1 rfl ?_
              refine g_bipush (v := 47) hX dM_again_134 (by decide) ?_
              refine g_iload_n hX dM_again_136 2 rfl ?_
              refine g_iadd (z := (nI (47 + r2))) hX dM_again_137 (nI_add 47 r2) ?_
              refine g_ald (v := (S 18 (47 + r2))) hX 18 rfl (47 + r2) (by omega) (by decide) (rfl) (by first | exact hq_r2.kk (by decide) _ | (simp only [sw_ne, ne_eq, Nat.reduceEqDiff, not_false_eq_true]; exact hq_r2.kk (by decide) _)) dM_again_138 ?_
              refine g_ast (ws1 := wM Z h q (sw Tr2 7 r2 (S 18 (47 + r2)))) hX 8 rfl r2 (by omega) (by decide) (rfl) dM_again_139 (setM_S_7 Z h q Tr2 r2 (S 18 (47 + r2))) ?_
              refine g_aload_n hX dM_again_140 0 rfl ?_
              refine g_get hX 0 rfl rfl 10 (by decide) uu_M q_594 rfl rfl dM_again_141 ?_
              refine g_iload_n hX dM_again_144 2 rfl ?_
              refine g_aload_n hX dM_again_145 1 rfl ?_
              refine g_bipush (v := 52) hX dM_again_146 (by decide) ?_
              refine g_iload_n hX dM_again_148 2 rfl ?_
              refine g_iadd (z := (nI (52 + r2))) hX dM_again_149 (nI_add 52 r2) ?_
              refine g_ald (v := (S 18 (52 + r2))) hX 18 rfl (52 + r2) (by omega) (by decide) (rfl) (by first | exact hq_r2.kk (by decide) _ | (simp only [sw_ne, ne_eq, Nat.reduceEqDiff, not_false_eq_true]; exact hq_r2.kk (by decide) _)) dM_again_150 ?_
              refine g_ast (ws1 := wM Z h q (sw (sw Tr2 7 r2 (S 18 (47 + r2))) 8 r2 (S 18 (52 + r2)))) hX 9 rfl r2 (by omega) (by decide) (rfl) dM_again_151 (setM_S_8 Z h q (sw Tr2 7 r2 (S 18 (47 + r2))) r2 (S 18 (52 + r2))) ?_
              refine g_aload_n hX dM_again_152 0 rfl ?_
              refine g_get hX 0 rfl rfl 11 (by decide) uu_M q_595 rfl rfl dM_again_153 ?_
              refine g_iload_n hX dM_again_156 2 rfl ?_
              refine g_aload_n hX dM_again_157 1 rfl ?_
              refine g_bipush (v := 57) hX dM_again_158 (by decide) ?_
              refine g_iload_n hX dM_again_160 2 rfl ?_
              refine g_iadd (z := (nI (57 + r2))) hX dM_again_161 (nI_add 57 r2) ?_
              refine g_ald (v := (S 18 (57 + r2))) hX 18 rfl (57 + r2) (by omega) (by decide) (rfl) (by first | exact hq_r2.kk (by decide) _ | (simp only [sw_ne, ne_eq, Nat.reduceEqDiff, not_false_eq_true]; exact hq_r2.kk (by decide) _)) dM_again_162 ?_
              refine g_ast (ws1 := wM Z h q (sw (sw (sw Tr2 7 r2 (S 18 (47 + r2))) 8 r2 (S 18 (52 + r2))) 9 r2 (S 18 (57 + r2)))) hX 10 rfl r2 (by omega) (by decide) (rfl) dM_again_163 (setM_S_9 Z h q (sw (sw Tr2 7 r2 (S 18 (47 + r2))) 8 r2 (S 18 (52 + r2))) r2 (S 18 (57 + r2))) ?_
              refine g_aload_n hX dM_again_164 0 rfl ?_
              refine g_get hX 0 rfl rfl 12 (by decide) uu_M q_596 rfl rfl dM_again_165 ?_
              refine g_iload_n hX dM_again_168 2 rfl ?_
              refine g_aload_n hX dM_again_169 1 rfl ?_
              refine g_bipush (v := 62) hX dM_again_170 (by decide) ?_
              refine g_iload_n hX dM_again_172 2 rfl ?_
              refine g_iadd (z := (nI (62 + r2))) hX dM_again_173 (nI_add 62 r2) ?_
              refine g_ald (v := (S 18 (62 + r2))) hX 18 rfl (62 + r2) (by omega) (by decide) (rfl) (by first | exact hq_r2.kk (by decide) _ | (simp only [sw_ne, ne_eq, Nat.reduceEqDiff, not_false_eq_true]; exact hq_r2.kk (by decide) _)) dM_again_174 ?_
              refine g_ast (ws1 := wM Z h q (sw (sw (sw (sw Tr2 7 r2 (S 18 (47 + r2))) 8 r2 (S 18 (52 + r2))) 9 r2 (S 18 (57 + r2))) 10 r2 (S 18 (62 + r2)))) hX 11 rfl r2 (by omega) (by decide) (rfl) dM_again_175 (setM_S_10 Z h q (sw (sw (sw Tr2 7 r2 (S 18 (47 + r2))) 8 r2 (S 18 (52 + r2))) 9 r2 (S 18 (57 + r2))) r2 (S 18 (62 + r2))) ?_
              refine g_iinc (v := (nI (r2 + 1))) (lv1 := [(0, .ref h), (1, .ref (q 18)), (2, .int (nI (r2 + 1)))]) hX dM_again_176 2 rfl (inc_nat _) (by decide) [1, 2, 0] rfl ?_
              refine g_goto hX 123 dM_again_179 (by decide) ?_
              exact ih_r2 (sw (sw (sw (sw Tr2 7 r2 (S 18 (47 + r2))) 8 r2 (S 18 (52 + r2))) 9 r2 (S 18 (57 + r2))) 10 r2 (S 18 (62 + r2))) ((AG.put (Q' := fun k j => (k = 0 ∨ k = 1 ∨ k = 11) ∧ j < 6 ∨ (2 ≤ k ∧ k ≤ 6) ∧ j < 7 ∨ (7 ≤ k ∧ k ≤ 10) ∧ j < (r2 + 1)) (AG.put (Q' := fun k j => (k = 0 ∨ k = 1 ∨ k = 11) ∧ j < 6 ∨ (2 ≤ k ∧ k ≤ 6) ∧ j < 7 ∨ (7 ≤ k ∧ k ≤ 10) ∧ j < r2 ∨ k = 7 ∧ j = r2 ∨ k = 8 ∧ j = r2 ∨ k = 9 ∧ j = r2) (AG.put (Q' := fun k j => (k = 0 ∨ k = 1 ∨ k = 11) ∧ j < 6 ∨ (2 ≤ k ∧ k ≤ 6) ∧ j < 7 ∨ (7 ≤ k ∧ k ≤ 10) ∧ j < r2 ∨ k = 7 ∧ j = r2 ∨ k = 8 ∧ j = r2) (AG.put (Q' := fun k j => (k = 0 ∨ k = 1 ∨ k = 11) ∧ j < 6 ∨ (2 ≤ k ∧ k ≤ 6) ∧ j < 7 ∨ (7 ≤ k ∧ k ≤ 10) ∧ j < r2 ∨ k = 7 ∧ j = r2) hq_r2 7 r2 (v := S 18 (47 + r2)) (by rw [up_7 S _ (by omega)]) (fun k j => by omega)) 8 r2 (v := S 18 (52 + r2)) (by rw [up_8 S _ (by omega)]) (fun k j => by omega)) 9 r2 (v := S 18 (57 + r2)) (by rw [up_9 S _ (by omega)]) (fun k j => by omega)) 10 r2 (v := S 18 (62 + r2)) (by rw [up_10 S _ (by omega)]) (fun k j => by omega)))
          exact hL_123 0 (Nat.zero_le _) Tr1 (hq_r1.mono (fun k j => by omega))
        · intro Tr1 hq_r1
          refine g_iload_n hX dM_again_49 2 rfl ?_
          refine g_bipush (v := 7) hX dM_again_50 (by decide) ?_
          refine g_icmp_ge hX 121 dM_again_52 (by decide) (fun c_52 => absurd c_52 (nI_ge (a := r1) (b := 7) hi_r1 (by omega))) (fun c_52 => ?_)
          refine g_aload_n hX dM_again_55 0 rfl ?_
          refine g_get hX 0 rfl rfl 3 (by decide) uu_M q_587 rfl rfl dM_again_56 ?_
          refine g_iload_n hX dM_again_59 2 rfl ?_
          refine g_aload_n hX dM_again_60 1 rfl ?_
          refine g_bipush (v := 12) hX dM_again_61 (by decide) ?_
          refine g_iload_n hX dM_again_63 2 rfl ?_
          refine g_iadd (z := (nI (12 + r1))) hX dM_again_64 (nI_add 12 r1) ?_
          refine g_ald (v := (S 18 (12 + r1))) hX 18 rfl (12 + r1) (by omega) (by decide) (rfl) (by first | exact hq_r1.kk (by decide) _ | (simp only [sw_ne, ne_eq, Nat.reduceEqDiff, not_false_eq_true]; exact hq_r1.kk (by decide) _)) dM_again_65 ?_
          refine g_ast (ws1 := wM Z h q (sw Tr1 2 r1 (S 18 (12 + r1)))) hX 3 rfl r1 (by omega) (by decide) (rfl) dM_again_66 (setM_S_2 Z h q Tr1 r1 (S 18 (12 + r1))) ?_
          refine g_aload_n hX dM_again_67 0 rfl ?_
          refine g_get hX 0 rfl rfl 4 (by decide) uu_M q_588 rfl rfl dM_again_68 ?_
          refine g_iload_n hX dM_again_71 2 rfl ?_
          refine g_aload_n hX dM_again_72 1 rfl ?_
          refine g_bipush (v := 19) hX dM_again_73 (by decide) ?_
          refine g_iload_n hX dM_again_75 2 rfl ?_
          refine g_iadd (z := (nI (19 + r1))) hX dM_again_76 (nI_add 19 r1) ?_
          refine g_ald (v := (S 18 (19 + r1))) hX 18 rfl (19 + r1) (by omega) (by decide) (rfl) (by first | exact hq_r1.kk (by decide) _ | (simp only [sw_ne, ne_eq, Nat.reduceEqDiff, not_false_eq_true]; exact hq_r1.kk (by decide) _)) dM_again_77 ?_
          refine g_ast (ws1 := wM Z h q (sw (sw Tr1 2 r1 (S 18 (12 + r1))) 3 r1 (S 18 (19 + r1)))) hX 4 rfl r1 (by omega) (by decide) (rfl) dM_again_78 (setM_S_3 Z h q (sw Tr1 2 r1 (S 18 (12 + r1))) r1 (S 18 (19 + r1))) ?_
          refine g_aload_n hX dM_again_79 0 rfl ?_
          refine g_get hX 0 rfl rfl 5 (by decide) uu_M q_589 rfl rfl dM_again_80 ?_
          refine g_iload_n hX dM_again_83 2 rfl ?_
          refine g_aload_n hX dM_again_84 1 rfl ?_
          refine g_bipush (v := 26) hX dM_again_85 (by decide) ?_
          refine g_iload_n hX dM_again_87 2 rfl ?_
          refine g_iadd (z := (nI (26 + r1))) hX dM_again_88 (nI_add 26 r1) ?_
          refine g_ald (v := (S 18 (26 + r1))) hX 18 rfl (26 + r1) (by omega) (by decide) (rfl) (by first | exact hq_r1.kk (by decide) _ | (simp only [sw_ne, ne_eq, Nat.reduceEqDiff, not_false_eq_true]; exact hq_r1.kk (by decide) _)) dM_again_89 ?_
          refine g_ast (ws1 := wM Z h q (sw (sw (sw Tr1 2 r1 (S 18 (12 + r1))) 3 r1 (S 18 (19 + r1))) 4 r1 (S 18 (26 + r1)))) hX 5 rfl r1 (by omega) (by decide) (rfl) dM_again_90 (setM_S_4 Z h q (sw (sw Tr1 2 r1 (S 18 (12 + r1))) 3 r1 (S 18 (19 + r1))) r1 (S 18 (26 + r1))) ?_
          refine g_aload_n hX dM_again_91 0 rfl ?_
          refine g_get hX 0 rfl rfl 6 (by decide) uu_M q_590 rfl rfl dM_again_92 ?_
          refine g_iload_n hX dM_again_95 2 rfl ?_
          refine g_aload_n hX dM_again_96 1 rfl ?_
          refine g_bipush (v := 33) hX dM_again_97 (by decide) ?_
          refine g_iload_n hX dM_again_99 2 rfl ?_
          refine g_iadd (z := (nI (33 + r1))) hX dM_again_100 (nI_add 33 r1) ?_
          refine g_ald (v := (S 18 (33 + r1))) hX 18 rfl (33 + r1) (by omega) (by decide) (rfl) (by first | exact hq_r1.kk (by decide) _ | (simp only [sw_ne, ne_eq, Nat.reduceEqDiff, not_false_eq_true]; exact hq_r1.kk (by decide) _)) dM_again_101 ?_
          refine g_ast (ws1 := wM Z h q (sw (sw (sw (sw Tr1 2 r1 (S 18 (12 + r1))) 3 r1 (S 18 (19 + r1))) 4 r1 (S 18 (26 + r1))) 5 r1 (S 18 (33 + r1)))) hX 6 rfl r1 (by omega) (by decide) (rfl) dM_again_102 (setM_S_5 Z h q (sw (sw (sw Tr1 2 r1 (S 18 (12 + r1))) 3 r1 (S 18 (19 + r1))) 4 r1 (S 18 (26 + r1))) r1 (S 18 (33 + r1))) ?_
          refine g_aload_n hX dM_again_103 0 rfl ?_
          refine g_get hX 0 rfl rfl 7 (by decide) uu_M q_591 rfl rfl dM_again_104 ?_
          refine g_iload_n hX dM_again_107 2 rfl ?_
          refine g_aload_n hX dM_again_108 1 rfl ?_
          refine g_bipush (v := 40) hX dM_again_109 (by decide) ?_
          refine g_iload_n hX dM_again_111 2 rfl ?_
          refine g_iadd (z := (nI (40 + r1))) hX dM_again_112 (nI_add 40 r1) ?_
          refine g_ald (v := (S 18 (40 + r1))) hX 18 rfl (40 + r1) (by omega) (by decide) (rfl) (by first | exact hq_r1.kk (by decide) _ | (simp only [sw_ne, ne_eq, Nat.reduceEqDiff, not_false_eq_true]; exact hq_r1.kk (by decide) _)) dM_again_113 ?_
          refine g_ast (ws1 := wM Z h q (sw (sw (sw (sw (sw Tr1 2 r1 (S 18 (12 + r1))) 3 r1 (S 18 (19 + r1))) 4 r1 (S 18 (26 + r1))) 5 r1 (S 18 (33 + r1))) 6 r1 (S 18 (40 + r1)))) hX 7 rfl r1 (by omega) (by decide) (rfl) dM_again_114 (setM_S_6 Z h q (sw (sw (sw (sw Tr1 2 r1 (S 18 (12 + r1))) 3 r1 (S 18 (19 + r1))) 4 r1 (S 18 (26 + r1))) 5 r1 (S 18 (33 + r1))) r1 (S 18 (40 + r1))) ?_
          refine g_iinc (v := (nI (r1 + 1))) (lv1 := [(0, .ref h), (1, .ref (q 18)), (2, .int (nI (r1 + 1)))]) hX dM_again_115 2 rfl (inc_nat _) (by decide) [1, 2, 0] rfl ?_
          refine g_goto hX 49 dM_again_118 (by decide) ?_
          exact ih_r1 (sw (sw (sw (sw (sw Tr1 2 r1 (S 18 (12 + r1))) 3 r1 (S 18 (19 + r1))) 4 r1 (S 18 (26 + r1))) 5 r1 (S 18 (33 + r1))) 6 r1 (S 18 (40 + r1))) ((AG.put (Q' := fun k j => (k = 0 ∨ k = 1 ∨ k = 11) ∧ j < 6 ∨ (2 ≤ k ∧ k ≤ 6) ∧ j < (r1 + 1)) (AG.put (Q' := fun k j => (k = 0 ∨ k = 1 ∨ k = 11) ∧ j < 6 ∨ (2 ≤ k ∧ k ≤ 6) ∧ j < r1 ∨ k = 2 ∧ j = r1 ∨ k = 3 ∧ j = r1 ∨ k = 4 ∧ j = r1 ∨ k = 5 ∧ j = r1) (AG.put (Q' := fun k j => (k = 0 ∨ k = 1 ∨ k = 11) ∧ j < 6 ∨ (2 ≤ k ∧ k ≤ 6) ∧ j < r1 ∨ k = 2 ∧ j = r1 ∨ k = 3 ∧ j = r1 ∨ k = 4 ∧ j = r1) (AG.put (Q' := fun k j => (k = 0 ∨ k = 1 ∨ k = 11) ∧ j < 6 ∨ (2 ≤ k ∧ k ≤ 6) ∧ j < r1 ∨ k = 2 ∧ j = r1 ∨ k = 3 ∧ j = r1) (AG.put (Q' := fun k j => (k = 0 ∨ k = 1 ∨ k = 11) ∧ j < 6 ∨ (2 ≤ k ∧ k ≤ 6) ∧ j < r1 ∨ k = 2 ∧ j = r1) hq_r1 2 r1 (v := S 18 (12 + r1)) (by rw [up_2 S _ (by omega)]) (fun k j => by omega)) 3 r1 (v := S 18 (19 + r1)) (by rw [up_3 S _ (by omega)]) (fun k j => by omega)) 4 r1 (v := S 18 (26 + r1)) (by rw [up_4 S _ (by omega)]) (fun k j => by omega)) 5 r1 (v := S 18 (33 + r1)) (by rw [up_5 S _ (by omega)]) (fun k j => by omega)) 6 r1 (v := S 18 (40 + r1)) (by rw [up_6 S _ (by omega)]) (fun k j => by omega)))
      exact hL_49 0 (Nat.zero_le _) Tr0 (hq_r0.mono (fun k j => by omega))
    · intro Tr0 hq_r0
      refine g_iload_n hX dM_again_2 2 rfl ?_
      refine g_bipush (v := 6) hX dM_again_3 (by decide) ?_
      refine g_icmp_ge hX 47 dM_again_5 (by decide) (fun c_5 => absurd c_5 (nI_ge (a := r0) (b := 6) hi_r0 (by omega))) (fun c_5 => ?_)
      refine g_aload_n hX dM_again_8 0 rfl ?_
      refine g_get hX 0 rfl rfl 0 (by decide) uu_M q_584 rfl rfl dM_again_9 ?_
      refine g_iload_n hX dM_again_12 2 rfl ?_
      refine g_aload_n hX dM_again_13 1 rfl ?_
      refine g_iload_n hX dM_again_14 2 rfl ?_
      refine g_ald (v := (S 18 r0)) hX 18 rfl r0 (by omega) (by decide) (rfl) (by first | exact hq_r0.kk (by decide) _ | (simp only [sw_ne, ne_eq, Nat.reduceEqDiff, not_false_eq_true]; exact hq_r0.kk (by decide) _)) dM_again_15 ?_
      refine g_ast (ws1 := wM Z h q (sw Tr0 0 r0 (S 18 r0))) hX 1 rfl r0 (by omega) (by decide) (rfl) dM_again_16 (setM_S_0 Z h q Tr0 r0 (S 18 r0)) ?_
      refine g_aload_n hX dM_again_17 0 rfl ?_
      refine g_get hX 0 rfl rfl 1 (by decide) uu_M q_585 rfl rfl dM_again_18 ?_
      refine g_iload_n hX dM_again_21 2 rfl ?_
      refine g_aload_n hX dM_again_22 1 rfl ?_
      refine g_bipush (v := 6) hX dM_again_23 (by decide) ?_
      refine g_iload_n hX dM_again_25 2 rfl ?_
      refine g_iadd (z := (nI (6 + r0))) hX dM_again_26 (nI_add 6 r0) ?_
      refine g_ald (v := (S 18 (6 + r0))) hX 18 rfl (6 + r0) (by omega) (by decide) (rfl) (by first | exact hq_r0.kk (by decide) _ | (simp only [sw_ne, ne_eq, Nat.reduceEqDiff, not_false_eq_true]; exact hq_r0.kk (by decide) _)) dM_again_27 ?_
      refine g_ast (ws1 := wM Z h q (sw (sw Tr0 0 r0 (S 18 r0)) 1 r0 (S 18 (6 + r0)))) hX 2 rfl r0 (by omega) (by decide) (rfl) dM_again_28 (setM_S_1 Z h q (sw Tr0 0 r0 (S 18 r0)) r0 (S 18 (6 + r0))) ?_
      refine g_aload_n hX dM_again_29 0 rfl ?_
      refine g_get hX 0 rfl rfl 14 (by decide) uu_M q_598 rfl rfl dM_again_30 ?_
      refine g_iload_n hX dM_again_33 2 rfl ?_
      refine g_aload_n hX dM_again_34 1 rfl ?_
      refine g_bipush (v := 67) hX dM_again_35 (by decide) ?_
      refine g_iload_n hX dM_again_37 2 rfl ?_
      refine g_iadd (z := (nI (67 + r0))) hX dM_again_38 (nI_add 67 r0) ?_
      refine g_ald (v := (S 18 (67 + r0))) hX 18 rfl (67 + r0) (by omega) (by decide) (rfl) (by first | exact hq_r0.kk (by decide) _ | (simp only [sw_ne, ne_eq, Nat.reduceEqDiff, not_false_eq_true]; exact hq_r0.kk (by decide) _)) dM_again_39 ?_
      refine g_ast (ws1 := wM Z h q (sw (sw (sw Tr0 0 r0 (S 18 r0)) 1 r0 (S 18 (6 + r0))) 11 r0 (S 18 (67 + r0)))) hX 12 rfl r0 (by omega) (by decide) (rfl) dM_again_40 (setM_S_11 Z h q (sw (sw Tr0 0 r0 (S 18 r0)) 1 r0 (S 18 (6 + r0))) r0 (S 18 (67 + r0))) ?_
      refine g_iinc (v := (nI (r0 + 1))) (lv1 := [(0, .ref h), (1, .ref (q 18)), (2, .int (nI (r0 + 1)))]) hX dM_again_41 2 rfl (inc_nat _) (by decide) [1, 2, 0] rfl ?_
      refine g_goto hX 2 dM_again_44 (by decide) ?_
      exact ih_r0 (sw (sw (sw Tr0 0 r0 (S 18 r0)) 1 r0 (S 18 (6 + r0))) 11 r0 (S 18 (67 + r0))) ((AG.put (Q' := fun k j => (k = 0 ∨ k = 1 ∨ k = 11) ∧ j < (r0 + 1)) (AG.put (Q' := fun k j => (k = 0 ∨ k = 1 ∨ k = 11) ∧ j < r0 ∨ k = 0 ∧ j = r0 ∨ k = 1 ∧ j = r0) (AG.put (Q' := fun k j => (k = 0 ∨ k = 1 ∨ k = 11) ∧ j < r0 ∨ k = 0 ∧ j = r0) hq_r0 0 r0 (v := S 18 r0) (by rw [up_0 S _ (by omega), Nat.zero_add]) (fun k j => by omega)) 1 r0 (v := S 18 (6 + r0)) (by rw [up_1 S _ (by omega)]) (fun k j => by omega)) 11 r0 (v := S 18 (67 + r0)) (by rw [up_11 S _ (by omega)]) (fun k j => by omega)))
  exact hL_2 0 (Nat.zero_le _) S (fun k j => ⟨fun z => by omega, fun _ => rfl⟩)
