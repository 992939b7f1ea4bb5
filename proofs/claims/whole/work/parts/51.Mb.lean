/-! the Model: ways -/
theorem Lks.num {S : St} {nL : Nat} {o t c : Nat → Nat} (h : Lks S nL o t c) (hc1 : ∀ g, g < nL → 1 ≤ c g) : Lkn nL o t c := fun g hg => ⟨(h g hg).2.2.2.1, (h g hg).2.2.2.2.1, (h g hg).2.2.2.2.2.1, hc1 g hg, (h g hg).2.2.2.2.2.2⟩
/-- the ways' row, as numbers; all else as it was -/
def Wn (S V : St) (w : Nat → Nat) : Prop := (∀ p, p < 7 → V 19 p = nI (w p)) ∧ ∀ k, k ≠ 19 → V k = S k
theorem Wn.up {S V : St} {w : Nat → Nat} (h : Wn S V w) (j v : Nat) : Wn S (sw V 19 j (nI v)) (upN w j v) := by
  refine ⟨fun p hp => ?_, fun k hk => by rw [sw_ne _ _ _ hk]; exact h.2 k hk⟩
  rw [swv]
  unfold upN
  by_cases e : p = j
  · rw [if_pos ⟨rfl, e⟩, if_pos e]
  · rw [if_neg (fun q => e q.2), if_neg e]
    exact h.1 p hp
def W0 (S V : St) (f i : Nat) : Prop := (∀ p, p < i → V 19 p = nI (w00 f p)) ∧ ∀ k, k ≠ 19 → V k = S k
theorem W0.step {S V : St} {f i : Nat} (h : W0 S V f i) : W0 S (sw V 19 i (nI (w00 f i))) f (i + 1) := by
  refine ⟨fun p hp => ?_, fun k hk => by rw [sw_ne _ _ _ hk]; exact h.2 k hk⟩
  rw [swv]
  by_cases e : p = i
  · rw [if_pos ⟨rfl, e⟩, e]
  · rw [if_neg (fun q => e q.2)]
    exact h.1 p (by omega)
theorem w00_ne {i f : Nat} (h : ¬ nI i = nI f) : (10000 : Int32) = nI (w00 f i) := by
  unfold w00
  rw [if_neg (fun q => h (by rw [q]))]
  rfl
theorem w00_eq {i f : Nat} (hi : i < 7) (hf : f < 7) (h : nI i = nI f) : (0 : Int32) = nI (w00 f i) := by
  unfold w00
  rw [if_pos ((nI_eq (by omega) (by omega)).mp h)]
  rfl
theorem O19 {S V : St} (h : ∀ k, k ≠ 19 → V k = S k) : V = sr S 19 (V 19) := by
  funext k
  by_cases e : k = 19
  · subst e
    rw [sr_eq]
  · rw [sr_ne _ _ e]
    exact h k e
def wlkP (Z : ZZ) (h : Nat) (q : Nat → Nat) (S : St) (D : Nat → Nat → Nat) (f : Nat) : Option Value → va_W → Prop := fun v ws => v = none ∧ ∃ F, (∀ p, p < 7 → F p = nI (min (D f p) 10000)) ∧ ws = wM Z h q (sr S 19 F)
theorem wlkP_mk {Z : ZZ} {h : Nat} {q : Nat → Nat} {S V : St} {nL f : Nat} {o t c : Nat → Nat} {w : Nat → Nat} (hN : Lkn nL o t c) (hf : f < 7) (hw : Wn S V w) (hI : WI (dst o t c nL f) 7 w) : wlkP Z h q S (dst o t c nL) f none (wM Z h q V) := by
  refine ⟨rfl, V 19, fun p hp => ?_, ?_⟩
  · rw [hw.1 p hp, hI.done hN hf hp]
  · exact congrArg (wM Z h q) (O19 hw.2)
/-- a length of a way as it is answered -/
def wy (n : Nat) : Int32 := if n < 10000 then nI n else -9
theorem wy_lo {n : Nat} (h : ¬ (10000 : Int32) ≤ nI (min n 10000)) : wy n = nI (min n 10000) := by
  have h2 : ¬ nI 10000 ≤ nI (min n 10000) := h
  rw [nI_leI (by omega) (by omega)] at h2
  unfold wy
  rw [if_pos (by omega), Nat.min_eq_left (by omega)]
theorem wy_hi {n : Nat} (h : (10000 : Int32) ≤ nI (min n 10000)) : wy n = -9 := by
  have h2 : nI 10000 ≤ nI (min n 10000) := h
  rw [nI_leI (by omega) (by omega)] at h2
  unfold wy
  rw [if_neg (by omega)]
def mf_way (S : St) (D : Nat → Nat → Nat) (x y : Int32) : Int32 × St := if isPlaceS x = 0 then (-1, nob S 1) else if isPlaceS y = 0 then (-1, nob S 1) else (wy (D (cl x) (cl y)), S)
def mnW (D : Nat → Nat → Nat) (f : Nat) : Nat → Nat
  | 0 => 10000
  | n + 1 => min (mnW D f n) (min (D f n) 10000)
theorem mnW_le (D : Nat → Nat → Nat) (f : Nat) : ∀ n, mnW D f n ≤ 10000
  | 0 => Nat.le_refl _
  | n + 1 => Nat.le_trans (Nat.min_le_left _ _) (mnW_le D f n)
theorem wyl {n : Nat} (h : n ≤ 10000) (c : ¬ (10000 : Int32) ≤ nI n) : wy n = nI n := by
  have h2 : ¬ nI 10000 ≤ nI n := c
  rw [nI_leI (by omega) (by omega)] at h2
  exact if_pos (by omega)
theorem wyh {n : Nat} (h : n ≤ 10000) (c : (10000 : Int32) ≤ nI n) : wy n = -9 := by
  have h2 : nI 10000 ≤ nI n := c
  rw [nI_leI (by omega) (by omega)] at h2
  exact if_neg (by omega)
def mf_soonest (S : St) (D : Nat → Nat → Nat) (x : Int32) : Int32 × St := if isPlaceS x = 0 then (-1, nob S 1) else (wy (mnW D (cl x) 6), S)
/-- the farthest room so far -/
def fmR (D : Nat → Nat → Nat) : Nat → Int32
  | 0 => -9
  | n + 1 => if 10000 ≤ D 6 n then fmR D n else if fmR D n < 0 then nI n else if D 6 n ≤ D 6 (cl (fmR D n)) then fmR D n else nI n
def fmF (D : Nat → Nat → Nat) (n : Nat) : Prop := fmR D n = -9 ∨ ∃ r, r < 6 ∧ fmR D n = nI r ∧ D 6 r < 10000
theorem fm_form (D : Nat → Nat → Nat) : ∀ n, n ≤ 6 → fmF D n
  | 0, _ => Or.inl rfl
  | n + 1, hn => by
    have ih := fm_form D n (by omega)
    unfold fmF at ih ⊢
    rw [fmR]
    by_cases h1 : 10000 ≤ D 6 n
    · rw [if_pos h1]
      exact ih
    · rw [if_neg h1]
      by_cases h2 : fmR D n < 0
      · rw [if_pos h2]
        exact Or.inr ⟨n, by omega, rfl, by omega⟩
      · rw [if_neg h2]
        split
        · exact ih
        · exact Or.inr ⟨n, by omega, rfl, by omega⟩
theorem fm_of {D : Nat → Nat → Nat} {n : Nat} (hn : n ≤ 6) (h : ¬ fmR D n < 0) : ∃ r, r < 6 ∧ fmR D n = nI r ∧ D 6 r < 10000 := by
  rcases fm_form D n hn with e | e
  · exact absurd (by rw [e]; decide) h
  · exact e
theorem far_hi {n : Nat} (h : (10000 : Int32) ≤ nI (min n 10000)) : 10000 ≤ n := by
  have h2 : nI 10000 ≤ nI (min n 10000) := h
  rw [nI_leI (by omega) (by omega)] at h2
  omega
theorem far_lo {n : Nat} (h : ¬ (10000 : Int32) ≤ nI (min n 10000)) : ¬ 10000 ≤ n := by
  have h2 : ¬ nI 10000 ≤ nI (min n 10000) := h
  rw [nI_leI (by omega) (by omega)] at h2
  omega
theorem fm_skip {D : Nat → Nat → Nat} {n : Nat} {f : Int32} (hq : f = fmR D n) (h : (10000 : Int32) ≤ nI (min (D 6 n) 10000)) : f = fmR D (n + 1) := by
  rw [fmR, if_pos (far_hi h)]
  exact hq
theorem fm_first {D : Nat → Nat → Nat} {n : Nat} {f : Int32} (hq : f = fmR D n) (h : ¬ (10000 : Int32) ≤ nI (min (D 6 n) 10000)) (h2 : f < 0) : nI n = fmR D (n + 1) := by
  rw [fmR, if_neg (far_lo h), ← hq, if_pos h2]
theorem fm_keep {D : Nat → Nat → Nat} {n r : Nat} {f : Int32} (hq : f = fmR D n) (h : ¬ (10000 : Int32) ≤ nI (min (D 6 n) 10000)) (h2 : ¬ f < 0) (hr : f = nI r) (hr6 : r < 6) (h3 : nI (min (D 6 n) 10000) ≤ nI (min (D 6 r) 10000)) : f = fmR D (n + 1) := by
  rw [nI_leI (by omega) (by omega)] at h3
  have := far_lo h
  rw [fmR, if_neg this, ← hq, if_neg h2, hr, show cl (nI r) = r from nI_clamp (by omega), if_pos (by omega)]
theorem fm_new {D : Nat → Nat → Nat} {n r : Nat} {f : Int32} (hq : f = fmR D n) (h : ¬ (10000 : Int32) ≤ nI (min (D 6 n) 10000)) (h2 : ¬ f < 0) (hr : f = nI r) (hr6 : r < 6) (hD : D 6 r < 10000) (h3 : ¬ nI (min (D 6 n) 10000) ≤ nI (min (D 6 r) 10000)) : nI n = fmR D (n + 1) := by
  rw [nI_leI (by omega) (by omega)] at h3
  have := far_lo h
  rw [fmR, if_neg this, ← hq, if_neg h2, hr, show cl (nI r) = r from nI_clamp (by omega), if_neg (by omega)]
def mf_farthest (S : St) (D : Nat → Nat → Nat) (w : Int32) : Int32 × St := if wthS w 0 1 = 0 then (-2, nob S 2) else if fmR D 6 < 0 then (fmR D 6, S) else if ¬ w = 0 then (nI (D 6 (cl (fmR D 6))), S) else (fmR D 6, S)
set_option maxHeartbeats 4000000 in
set_option maxRecDepth 20000 in
theorem con_M_walk (l : Launch) (Z : ZZ) (h : Nat) (q : Nat → Nat) (S : St) (nL : Nat) (hL : S 12 0 = nI nL) (hL8 : nL ≤ 8) (o t c : Nat → Nat) (hLk : Lks S nL o t c) (hc1 : ∀ g, g < nL → 1 ≤ c g) (f0 : Nat) (hf : f0 < 7) : Con l Z yM_walk cM_walk 4 none 1 [.ref h, .int (nI f0)] (wM Z h q S) (wlkP Z h q S (dst o t c nL) f0) := by
  refine Con.of (by decide) (Nat.le_of_ble_eq_true rfl) (fun X hX hQ => ?_)
  have hNn := hLk.num hc1
  show G X Z (wM Z h q S) 0 [(0, .ref h), (1, .int (nI f0))] []
  refine g_iconst (v := 0) hX dM_walk_0 (by decide) ?_
  refine g_istore_n (lv1 := [(0, .ref h), (1, .int (nI f0)), (2, .int 0)]) hX dM_walk_1 (by decide) [1, 2, 0] rfl ?_
  have hL_2 : ∀ i0, i0 ≤ 7 → ∀ (V9 : St), W0 S V9 f0 i0 → G X Z (wM Z h q V9) 2 [(0, .ref h), (1, .int (nI f0)), (2, .int (nI i0))] [] := by
    refine loopUp _ 7 ?_ (fun i0 hi_i0 ih_i0 => ?_)
    · intro V9 hq_i0
      refine g_iload_n hX dM_walk_2 2 rfl ?_
      refine g_bipush (v := 7) hX dM_walk_3 (by decide) ?_
      refine g_icmp_ge hX 32 dM_walk_5 (by decide) (fun c_5 => ?_) (fun c_5 => absurd (nI_le (a := 7) (b := 7) (Nat.le_refl _) (by omega)) c_5)
      refine g_iconst (v := 0) hX dM_walk_32 (by decide) ?_
      refine g_istore_n (lv1 := [(0, .ref h), (1, .int (nI f0)), (2, .int 0)]) hX dM_walk_33 (by decide) [1, 2, 0] rfl ?_
      have hL_34 : ∀ k0, k0 ≤ 7 → ∀ (V0 : St) (w0 : Nat → Nat), Wn S V0 w0 ∧ WI (dst o t c nL f0) k0 w0 → G X Z (wM Z h q V0) 34 [(0, .ref h), (1, .int (nI f0)), (2, .int (nI k0))] [] := by
        refine loopUp _ 7 ?_ (fun k0 hi_k0 ih_k0 => ?_)
        · intro V0 w0 hq_k0
          refine g_iload_n hX dM_walk_34 2 rfl ?_
          refine g_bipush (v := 7) hX dM_walk_35 (by decide) ?_
          refine g_icmp_ge hX 148 dM_walk_37 (by decide) (fun c_37 => ?_) (fun c_37 => absurd (nI_le (a := 7) (b := 7) (Nat.le_refl _) (by omega)) c_37)
          exact r_vret hX hQ dM_walk_148 keysM (wlkP_mk hNn hf hq_k0.1 hq_k0.2)
        · intro V0 w0 hq_k0
          refine g_iload_n hX dM_walk_34 2 rfl ?_
          refine g_bipush (v := 7) hX dM_walk_35 (by decide) ?_
          refine g_icmp_ge hX 148 dM_walk_37 (by decide) (fun c_37 => absurd c_37 (nI_ge (a := k0) (b := 7) hi_k0 (by omega))) (fun c_37 => ?_)
          refine g_iconst (v := 0) hX dM_walk_40 (by decide) ?_
          refine g_istore_n (lv1 := [(0, .ref h), (1, .int (nI f0)), (2, .int (nI k0)), (3, .int 0)]) hX dM_walk_41 (by decide) [1, 2, 3, 0] rfl ?_
          have hL_42 : ∀ l0, l0 ≤ nL → ∀ (V0 : St) (w0 : Nat → Nat), Wn S V0 w0 ∧ WJ o t c (dst o t c nL f0) k0 l0 w0 → G X Z (wM Z h q V0) 42 [(0, .ref h), (1, .int (nI f0)), (2, .int (nI k0)), (3, .int (nI l0))] [] := by
            refine loopUp _ nL ?_ (fun l0 hi_l0 ih_l0 => ?_)
            · intro V0 w0 hq_l0
              refine g_iload_n hX dM_walk_42 3 rfl ?_
              refine g_aload_n hX dM_walk_43 0 rfl ?_
              refine g_get hX 0 rfl rfl 2 (by decide) uu_M q_586 rfl rfl dM_walk_44 ?_
              refine g_top (y := (nI nL)) (by rw [hq_l0.1.2 12 (by decide)]; exact hL) ?_
              refine g_icmp_ge hX 142 dM_walk_47 (by decide) (fun c_47 => ?_) (fun c_47 => absurd (nI_le (a := nL) (b := nL) (Nat.le_refl _) (by omega)) c_47)
              refine g_iinc (v := (nI (k0 + 1))) (lv1 := [(0, .ref h), (1, .int (nI f0)), (2, .int (nI (k0 + 1))), (3, .int (nI nL))]) hX dM_walk_142 2 rfl (inc_nat _) (by decide) [1, 2, 0, 3] rfl ?_
              refine g_goto hX 34 dM_walk_145 (by decide) ?_
              refine g_lv (lv1 := [(0, .ref h), (1, .int (nI f0)), (2, .int (nI (k0 + 1)))]) [0, 1, 2] rfl ?_
              exact ih_k0 V0 w0 (⟨hq_l0.1, hq_l0.2.done hNn⟩)
            · intro V0 w0 hq_l0
              refine g_iload_n hX dM_walk_42 3 rfl ?_
              refine g_aload_n hX dM_walk_43 0 rfl ?_
              refine g_get hX 0 rfl rfl 2 (by decide) uu_M q_586 rfl rfl dM_walk_44 ?_
              refine g_top (y := (nI nL)) (by rw [hq_l0.1.2 12 (by decide)]; exact hL) ?_
              refine g_icmp_ge hX 142 dM_walk_47 (by decide) (fun c_47 => absurd c_47 (nI_ge (a := l0) (b := nL) hi_l0 (by omega))) (fun c_47 => ?_)
              obtain ⟨hl2, hl3, hl5, l4, l5, l6, l7⟩ := hLk l0 hi_l0
              have hb1 := (hq_l0.2.1 (o l0) l4).2.1
              have hb2 := (hq_l0.2.1 (t l0) l5).2.1
              obtain ⟨he1, he2⟩ := dst_edge o t c hi_l0 l4 l5 f0
              refine g_aload_n hX dM_walk_50 0 rfl ?_
              refine g_get hX 0 rfl rfl 26 (by decide) uu_M q_610 rfl rfl dM_walk_51 ?_
              refine g_aload_n hX dM_walk_54 0 rfl ?_
              refine g_get hX 0 rfl rfl 3 (by decide) uu_M q_587 rfl rfl dM_walk_55 ?_
              refine g_iload_n hX dM_walk_58 3 rfl ?_
              refine g_ald (v := (nI (o l0))) hX 3 rfl l0 (by omega) (by decide) (rfl) (by first | (rw [hq_l0.1.2 2 (by decide)]; exact hl2) | (rw [sw_ne _ _ _ (by decide), hq_l0.1.2 2 (by decide)]; exact hl2)) dM_walk_59 ?_
              refine g_aload_n hX dM_walk_60 0 rfl ?_
              refine g_get hX 0 rfl rfl 26 (by decide) uu_M q_610 rfl rfl dM_walk_61 ?_
              refine g_aload_n hX dM_walk_64 0 rfl ?_
              refine g_get hX 0 rfl rfl 3 (by decide) uu_M q_587 rfl rfl dM_walk_65 ?_
              refine g_iload_n hX dM_walk_68 3 rfl ?_
              refine g_ald (v := (nI (o l0))) hX 3 rfl l0 (by omega) (by decide) (rfl) (by first | (rw [hq_l0.1.2 2 (by decide)]; exact hl2) | (rw [sw_ne _ _ _ (by decide), hq_l0.1.2 2 (by decide)]; exact hl2)) dM_walk_69 ?_
              refine g_ald (v := (nI (w0 (o l0)))) hX 19 rfl (o l0) (by omega) (by decide) (rfl) (hq_l0.1.1 (o l0) l4) dM_walk_70 ?_
              refine g_aload_n hX dM_walk_71 0 rfl ?_
              refine g_get hX 0 rfl rfl 26 (by decide) uu_M q_610 rfl rfl dM_walk_72 ?_
              refine g_aload_n hX dM_walk_75 0 rfl ?_
              refine g_get hX 0 rfl rfl 4 (by decide) uu_M q_588 rfl rfl dM_walk_76 ?_
              refine g_iload_n hX dM_walk_79 3 rfl ?_
              refine g_ald (v := (nI (t l0))) hX 4 rfl l0 (by omega) (by decide) (rfl) (by first | (rw [hq_l0.1.2 3 (by decide)]; exact hl3) | (rw [sw_ne _ _ _ (by decide), hq_l0.1.2 3 (by decide)]; exact hl3)) dM_walk_80 ?_
              refine g_ald (v := (nI (w0 (t l0)))) hX 19 rfl (t l0) (by omega) (by decide) (rfl) (hq_l0.1.1 (t l0) l5) dM_walk_81 ?_
              refine g_aload_n hX dM_walk_82 0 rfl ?_
              refine g_get hX 0 rfl rfl 6 (by decide) uu_M q_590 rfl rfl dM_walk_83 ?_
              refine g_iload_n hX dM_walk_86 3 rfl ?_
              refine g_ald (v := (nI (c l0))) hX 6 rfl l0 (by omega) (by decide) (rfl) (by first | (rw [hq_l0.1.2 5 (by decide)]; exact hl5) | (rw [sw_ne _ _ _ (by decide), hq_l0.1.2 5 (by decide)]; exact hl5)) dM_walk_87 ?_
              refine g_iadd (z := (nI ((w0 (t l0)) + (c l0)))) hX dM_walk_88 (nI_add (w0 (t l0)) (c l0)) ?_
              refine g_mmin (z := (nI (min (w0 (o l0)) (w0 (t l0) + c l0)))) hX q_704 q_298 q_12 q_299 dM_walk_89 (by decide) (Nat.le_of_ble_eq_true rfl) (mn_nI (by omega) (by omega)) ?_
              refine g_ast (ws1 := wM Z h q (sw V0 19 (o l0) (nI (min (w0 (o l0)) (w0 (t l0) + c l0))))) hX 19 rfl (o l0) (by omega) (by decide) (rfl) dM_walk_92 (setM_S_19 Z h q V0 (o l0) (nI (min (w0 (o l0)) (w0 (t l0) + c l0)))) ?_
              refine g_aload_n hX dM_walk_93 0 rfl ?_
              refine g_get hX 0 rfl rfl 26 (by decide) uu_M q_610 rfl rfl dM_walk_94 ?_
              refine g_aload_n hX dM_walk_97 0 rfl ?_
              refine g_get hX 0 rfl rfl 4 (by decide) uu_M q_588 rfl rfl dM_walk_98 ?_
              refine g_iload_n hX dM_walk_101 3 rfl ?_
              refine g_ald (v := (nI (t l0))) hX 4 rfl l0 (by omega) (by decide) (rfl) (by first | (rw [hq_l0.1.2 3 (by decide)]; exact hl3) | (rw [sw_ne _ _ _ (by decide), hq_l0.1.2 3 (by decide)]; exact hl3)) dM_walk_102 ?_
              refine g_aload_n hX dM_walk_103 0 rfl ?_
              refine g_get hX 0 rfl rfl 26 (by decide) uu_M q_610 rfl rfl dM_walk_104 ?_
              refine g_aload_n hX dM_walk_107 0 rfl ?_
              refine g_get hX 0 rfl rfl 4 (by decide) uu_M q_588 rfl rfl dM_walk_108 ?_
              refine g_iload_n hX dM_walk_111 3 rfl ?_
              refine g_ald (v := (nI (t l0))) hX 4 rfl l0 (by omega) (by decide) (rfl) (by first | (rw [hq_l0.1.2 3 (by decide)]; exact hl3) | (rw [sw_ne _ _ _ (by decide), hq_l0.1.2 3 (by decide)]; exact hl3)) dM_walk_112 ?_
              refine g_ald (v := (nI (w0 (t l0)))) hX 19 rfl (t l0) (by omega) (by decide) (rfl) (by rw [swv, if_neg (fun z => l6 z.2.symm)]; exact hq_l0.1.1 (t l0) l5) dM_walk_113 ?_
              refine g_aload_n hX dM_walk_114 0 rfl ?_
              refine g_get hX 0 rfl rfl 26 (by decide) uu_M q_610 rfl rfl dM_walk_115 ?_
              refine g_aload_n hX dM_walk_118 0 rfl ?_
              refine g_get hX 0 rfl rfl 3 (by decide) uu_M q_587 rfl rfl dM_walk_119 ?_
              refine g_iload_n hX dM_walk_122 3 rfl ?_
              refine g_ald (v := (nI (o l0))) hX 3 rfl l0 (by omega) (by decide) (rfl) (by first | (rw [hq_l0.1.2 2 (by decide)]; exact hl2) | (rw [sw_ne _ _ _ (by decide), hq_l0.1.2 2 (by decide)]; exact hl2)) dM_walk_123 ?_
              refine g_ald (v := (nI (min (w0 (o l0)) (w0 (t l0) + c l0)))) hX 19 rfl (o l0) (by omega) (by decide) (rfl) (by rw [swv, if_pos ⟨rfl, rfl⟩]) dM_walk_124 ?_
              refine g_aload_n hX dM_walk_125 0 rfl ?_
              refine g_get hX 0 rfl rfl 6 (by decide) uu_M q_590 rfl rfl dM_walk_126 ?_
              refine g_iload_n hX dM_walk_129 3 rfl ?_
              refine g_ald (v := (nI (c l0))) hX 6 rfl l0 (by omega) (by decide) (rfl) (by first | (rw [hq_l0.1.2 5 (by decide)]; exact hl5) | (rw [sw_ne _ _ _ (by decide), hq_l0.1.2 5 (by decide)]; exact hl5)) dM_walk_130 ?_
              refine g_iadd (z := (nI ((min (w0 (o l0)) (w0 (t l0) + c l0)) + (c l0)))) hX dM_walk_131 (nI_add (min (w0 (o l0)) (w0 (t l0) + c l0)) (c l0)) ?_
              refine g_mmin (z := (nI (min (w0 (t l0)) (min (w0 (o l0)) (w0 (t l0) + c l0) + c l0)))) hX q_704 q_298 q_12 q_299 dM_walk_132 (by decide) (Nat.le_of_ble_eq_true rfl) (mn_nI (by omega) (by omega)) ?_
              refine g_ast (ws1 := wM Z h q (sw (sw V0 19 (o l0) (nI (min (w0 (o l0)) (w0 (t l0) + c l0)))) 19 (t l0) (nI (min (w0 (t l0)) (min (w0 (o l0)) (w0 (t l0) + c l0) + c l0))))) hX 19 rfl (t l0) (by omega) (by decide) (rfl) dM_walk_135 (setM_S_19 Z h q (sw V0 19 (o l0) (nI (min (w0 (o l0)) (w0 (t l0) + c l0)))) (t l0) (nI (min (w0 (t l0)) (min (w0 (o l0)) (w0 (t l0) + c l0) + c l0)))) ?_
              refine g_iinc (v := (nI (l0 + 1))) (lv1 := [(0, .ref h), (1, .int (nI f0)), (2, .int (nI k0)), (3, .int (nI (l0 + 1)))]) hX dM_walk_136 3 rfl (inc_nat _) (by decide) [1, 2, 3, 0] rfl ?_
              refine g_goto hX 42 dM_walk_139 (by decide) ?_
              exact ih_l0 (sw (sw V0 19 (o l0) (nI (min (w0 (o l0)) (w0 (t l0) + c l0)))) 19 (t l0) (nI (min (w0 (t l0)) (min (w0 (o l0)) (w0 (t l0) + c l0) + c l0)))) (upN (upN w0 (o l0) (min (w0 (o l0)) (w0 (t l0) + c l0))) (t l0) (min (w0 (t l0)) (min (w0 (o l0)) (w0 (t l0) + c l0) + c l0))) (⟨(hq_l0.1.up _ _).up _ _, hq_l0.2.step l4 l5 l6 he1 he2⟩)
          exact hL_42 0 (Nat.zero_le _) V0 w0 (⟨hq_k0.1, WJ.start hq_k0.2⟩)
      exact hL_34 0 (Nat.zero_le _) V9 (w00 f0) (⟨hq_i0, WI.start hNn⟩)
    · intro V9 hq_i0
      refine g_iload_n hX dM_walk_2 2 rfl ?_
      refine g_bipush (v := 7) hX dM_walk_3 (by decide) ?_
      refine g_icmp_ge hX 32 dM_walk_5 (by decide) (fun c_5 => absurd c_5 (nI_ge (a := i0) (b := 7) hi_i0 (by omega))) (fun c_5 => ?_)
      refine g_aload_n hX dM_walk_8 0 rfl ?_
      refine g_get hX 0 rfl rfl 26 (by decide) uu_M q_610 rfl rfl dM_walk_9 ?_
      refine g_iload_n hX dM_walk_12 2 rfl ?_
      refine g_iload_n hX dM_walk_13 2 rfl ?_
      refine g_iload_n hX dM_walk_14 1 rfl ?_
      have hJ_25 : G X Z (wM Z h q V9) 25 [(0, .ref h), (1, .int (nI f0)), (2, .int (nI i0))] [.int (nI (w00 f0 i0)), .int (nI i0), .ref (q 19)] := by
        refine g_ast (ws1 := wM Z h q (sw V9 19 i0 (nI (w00 f0 i0)))) hX 19 rfl i0 (by omega) (by decide) (rfl) dM_walk_25 (setM_S_19 Z h q V9 i0 (nI (w00 f0 i0))) ?_
        refine g_iinc (v := (nI (i0 + 1))) (lv1 := [(0, .ref h), (1, .int (nI f0)), (2, .int (nI (i0 + 1)))]) hX dM_walk_26 2 rfl (inc_nat _) (by decide) [1, 2, 0] rfl ?_
        refine g_goto hX 2 dM_walk_29 (by decide) ?_
        exact ih_i0 (sw V9 19 i0 (nI (w00 f0 i0))) (hq_i0.step)
      refine g_icmp_ne hX 22 dM_walk_15 (by decide) (fun c_15 => ?_) (fun c_15 => ?_)
      · refine g_sipush (v := 10000) hX dM_walk_22 (by decide) ?_
        refine g_top (y := (nI (w00 f0 i0))) (by first | exact w00_ne c_15 | exact w00_eq hi_i0 hf c_15) ?_
        exact hJ_25
      · refine g_iconst (v := 0) hX dM_walk_18 (by decide) ?_
        refine g_goto hX 25 dM_walk_19 (by decide) ?_
        refine g_top (y := (nI (w00 f0 i0))) (by first | exact w00_ne c_15 | exact w00_eq hi_i0 hf c_15) ?_
        exact hJ_25
  exact hL_2 0 (Nat.zero_le _) S (⟨fun p hp => absurd hp (Nat.not_lt_zero _), fun _ _ => rfl⟩)
set_option maxHeartbeats 4000000 in
set_option maxRecDepth 20000 in
theorem con_M_way (l : Launch) (Z : ZZ) (h : Nat) (q : Nat → Nat) (S : St) (x y : Int32) (nL : Nat) (hL : S 12 0 = nI nL) (hL8 : nL ≤ 8) (o t c : Nat → Nat) (hLk : Lks S nL o t c) (hc1 : ∀ g, g < nL → 1 ≤ c g) : Con l Z yM_way cM_way 3 (some .int) 3 [.ref h, .int x, .int y] (wM Z h q S) (MIq Z h q nL (mf_way S (dst o t c nL) x y)) := by
  refine Con.of (by decide) (Nat.le_of_ble_eq_true rfl) (fun X hX hQ => ?_)
  show G X Z (wM Z h q S) 0 [(0, .ref h), (1, .int x), (2, .int y)] []
  refine g_iload_n hX dM_way_0 1 rfl ?_
  refine g_callS hX (con_M_isPlace l Z x) msM_isPlace q_852 rfl (by decide) rfl (Nat.le_of_ble_eq_true rfl) dM_way_1 [] rfl (rfl) (g_fn (ws1 := wM Z h q S) (st1 := [.int (isPlaceS x)]) (rfl) rfl ?_)
  refine g_if_eq hX 14 dM_way_4 (by decide) (fun c_4 => ?_) (fun c_4 => ?_)
  · refine g_aload_n hX dM_way_14 0 rfl ?_
    refine g_iconst (v := (-1)) hX dM_way_15 (by decide) ?_
    refine g_callV hX (con_M_no l Z h q S (-1) 1 (by decide) (by decide)) mvM_no q_676 rfl (by decide) 0 rfl rfl rfl (Nat.le_of_ble_eq_true rfl) dM_way_16 [0, 1, 2, 3, 4, 5, 6, 7, 8, 9, 10, 11, 12, 13, 14, 15, 16, 17, 18, 19, 20, 21] rfl (subM_all Z h q S) (g_fn (ws1 := wM Z h q (nob S 1)) (st1 := [.int (-1)]) (putM_all Z h q S (nob S 1)) rfl ?_)
    exact r_iret hX hQ dM_way_19 keysM (by rw [show mf_way S (dst o t c nL) x y = ((-1), nob S 1) from by simp [mf_way, c_4]]; exact MIq_mk (Scr.rf))
  · refine g_iload_n hX dM_way_7 2 rfl ?_
    refine g_callS hX (con_M_isPlace l Z y) msM_isPlace q_852 rfl (by decide) rfl (Nat.le_of_ble_eq_true rfl) dM_way_8 [] rfl (rfl) (g_fn (ws1 := wM Z h q S) (st1 := [.int (isPlaceS y)]) (rfl) rfl ?_)
    refine g_if_ne hX 20 dM_way_11 (by decide) (fun c_11 => ?_) (fun c_11 => ?_)
    · obtain ⟨f0, hf07, rfl⟩ := isPlace_of c_4
      obtain ⟨t0, ht07, rfl⟩ := isPlace_of c_11
      refine g_aload_n hX dM_way_20 0 rfl ?_
      refine g_iload_n hX dM_way_21 1 rfl ?_
      refine g_callV hX (con_M_walk l Z h q S nL hL hL8 o t c hLk hc1 f0 (by omega)) mvM_walk q_855 rfl (by decide) 0 rfl rfl rfl (Nat.le_of_ble_eq_true rfl) dM_way_22 [0, 1, 2, 3, 4, 5, 6, 7, 8, 9, 10, 11, 12, 13, 14, 15, 16, 17, 18, 19, 20, 21] rfl (subM_all Z h q S) (fun v w hp => ?_)
      obtain ⟨rfl, F0, hF_F0, rfl⟩ := hp
      refine g_eq (ws1 := wM Z h q (sr S 19 F0)) (st1 := []) (putM_all Z h q S _) rfl rfl ?_
      refine g_aload_n hX dM_way_25 0 rfl ?_
      refine g_get hX 0 rfl rfl 26 (by decide) uu_M q_610 rfl rfl dM_way_26 ?_
      refine g_iload_n hX dM_way_29 2 rfl ?_
      refine g_ald (v := (nI (min ((dst o t c nL) f0 t0) 10000))) hX 19 rfl t0 (by omega) (by decide) (rfl) ((congrFun (sr_eq _ _ _) _).trans (hF_F0 t0 ht07)) dM_way_30 ?_
      refine g_sipush (v := 10000) hX dM_way_31 (by decide) ?_
      refine g_icmp_ge hX 46 dM_way_34 (by decide) (fun c_34 => ?_) (fun c_34 => ?_)
      · refine g_bipush (v := (-9)) hX dM_way_46 (by decide) ?_
        exact r_iret hX hQ dM_way_48 keysM (by rw [show mf_way S (dst o t c nL) (nI f0) (nI t0) = ((-9), S) from by simp only [mf_way, if_neg c_4, if_neg c_11, show cl (nI f0) = f0 from nI_clamp (by omega), show cl (nI t0) = t0 from nI_clamp (by omega), wy_hi c_34]]; exact MIq_mk (Scr.rf.row (by omega) _))
      · refine g_aload_n hX dM_way_37 0 rfl ?_
        refine g_get hX 0 rfl rfl 26 (by decide) uu_M q_610 rfl rfl dM_way_38 ?_
        refine g_iload_n hX dM_way_41 2 rfl ?_
        refine g_ald (v := (nI (min ((dst o t c nL) f0 t0) 10000))) hX 19 rfl t0 (by omega) (by decide) (rfl) ((congrFun (sr_eq _ _ _) _).trans (hF_F0 t0 ht07)) dM_way_42 ?_
        refine g_goto hX 48 dM_way_43 (by decide) ?_
        exact r_iret hX hQ dM_way_48 keysM (by rw [show mf_way S (dst o t c nL) (nI f0) (nI t0) = ((nI (min ((dst o t c nL) f0 t0) 10000)), S) from by simp only [mf_way, if_neg c_4, if_neg c_11, show cl (nI f0) = f0 from nI_clamp (by omega), show cl (nI t0) = t0 from nI_clamp (by omega), wy_lo c_34]]; exact MIq_mk (Scr.rf.row (by omega) _))
    · refine g_aload_n hX dM_way_14 0 rfl ?_
      refine g_iconst (v := (-1)) hX dM_way_15 (by decide) ?_
      refine g_callV hX (con_M_no l Z h q S (-1) 1 (by decide) (by decide)) mvM_no q_676 rfl (by decide) 0 rfl rfl rfl (Nat.le_of_ble_eq_true rfl) dM_way_16 [0, 1, 2, 3, 4, 5, 6, 7, 8, 9, 10, 11, 12, 13, 14, 15, 16, 17, 18, 19, 20, 21] rfl (subM_all Z h q S) (g_fn (ws1 := wM Z h q (nob S 1)) (st1 := [.int (-1)]) (putM_all Z h q S (nob S 1)) rfl ?_)
      exact r_iret hX hQ dM_way_19 keysM (by rw [show mf_way S (dst o t c nL) x y = ((-1), nob S 1) from by simp [mf_way, c_4, c_11]]; exact MIq_mk (Scr.rf))
set_option maxHeartbeats 4000000 in
set_option maxRecDepth 20000 in
theorem con_M_soonest (l : Launch) (Z : ZZ) (h : Nat) (q : Nat → Nat) (S : St) (x : Int32) (nL : Nat) (hL : S 12 0 = nI nL) (hL8 : nL ≤ 8) (o t c : Nat → Nat) (hLk : Lks S nL o t c) (hc1 : ∀ g, g < nL → 1 ≤ c g) : Con l Z yM_soonest cM_soonest 4 (some .int) 3 [.ref h, .int x] (wM Z h q S) (MIq Z h q nL (mf_soonest S (dst o t c nL) x)) := by
  refine Con.of (by decide) (Nat.le_of_ble_eq_true rfl) (fun X hX hQ => ?_)
  show G X Z (wM Z h q S) 0 [(0, .ref h), (1, .int x)] []
  refine g_iload_n hX dM_soonest_0 1 rfl ?_
  refine g_callS hX (con_M_isPlace l Z x) msM_isPlace q_852 rfl (by decide) rfl (Nat.le_of_ble_eq_true rfl) dM_soonest_1 [] rfl (rfl) (g_fn (ws1 := wM Z h q S) (st1 := [.int (isPlaceS x)]) (rfl) rfl ?_)
  refine g_if_ne hX 13 dM_soonest_4 (by decide) (fun c_4 => ?_) (fun c_4 => ?_)
  · obtain ⟨f0, hf07, rfl⟩ := isPlace_of c_4
    refine g_aload_n hX dM_soonest_13 0 rfl ?_
    refine g_iload_n hX dM_soonest_14 1 rfl ?_
    refine g_callV hX (con_M_walk l Z h q S nL hL hL8 o t c hLk hc1 f0 (by omega)) mvM_walk q_855 rfl (by decide) 0 rfl rfl rfl (Nat.le_of_ble_eq_true rfl) dM_soonest_15 [0, 1, 2, 3, 4, 5, 6, 7, 8, 9, 10, 11, 12, 13, 14, 15, 16, 17, 18, 19, 20, 21] rfl (subM_all Z h q S) (fun v w hp => ?_)
    obtain ⟨rfl, F0, hF_F0, rfl⟩ := hp
    refine g_eq (ws1 := wM Z h q (sr S 19 F0)) (st1 := []) (putM_all Z h q S _) rfl rfl ?_
    refine g_sipush (v := 10000) hX dM_soonest_18 (by decide) ?_
    refine g_istore_n (lv1 := [(0, .ref h), (1, .int (nI f0)), (2, .int 10000)]) hX dM_soonest_21 (by decide) [1, 2, 0] rfl ?_
    refine g_iconst (v := 0) hX dM_soonest_22 (by decide) ?_
    refine g_istore_n (lv1 := [(0, .ref h), (1, .int (nI f0)), (2, .int 10000), (3, .int 0)]) hX dM_soonest_23 (by decide) [1, 2, 3, 0] rfl ?_
    have hL_24 : ∀ i0, i0 ≤ 6 → G X Z (wM Z h q (sr S 19 F0)) 24 [(0, .ref h), (1, .int (nI f0)), (2, .int (nI (mnW (dst o t c nL) f0 i0))), (3, .int (nI i0))] [] := by
      refine loopUp _ 6 ?_ (fun i0 hi_i0 ih_i0 => ?_)
      · skip
        refine g_iload_n hX dM_soonest_24 3 rfl ?_
        refine g_bipush (v := 6) hX dM_soonest_25 (by decide) ?_
        refine g_icmp_ge hX 47 dM_soonest_27 (by decide) (fun c_27 => ?_) (fun c_27 => absurd (nI_le (a := 6) (b := 6) (Nat.le_refl _) (by omega)) c_27)
        refine g_iload_n hX dM_soonest_47 2 rfl ?_
        refine g_sipush (v := 10000) hX dM_soonest_48 (by decide) ?_
        refine g_icmp_ge hX 58 dM_soonest_51 (by decide) (fun c_51 => ?_) (fun c_51 => ?_)
        · refine g_bipush (v := (-9)) hX dM_soonest_58 (by decide) ?_
          exact r_iret hX hQ dM_soonest_60 keysM (by rw [show mf_soonest S (dst o t c nL) (nI f0) = ((-9), S) from by simp only [mf_soonest, if_neg c_4, show cl (nI f0) = f0 from nI_clamp (by omega), wyh (mnW_le _ _ _) c_51]]; exact MIq_mk (Scr.rf.row (by omega) _))
        · refine g_iload_n hX dM_soonest_54 2 rfl ?_
          refine g_goto hX 60 dM_soonest_55 (by decide) ?_
          exact r_iret hX hQ dM_soonest_60 keysM (by rw [show mf_soonest S (dst o t c nL) (nI f0) = ((nI (mnW (dst o t c nL) f0 6)), S) from by simp only [mf_soonest, if_neg c_4, show cl (nI f0) = f0 from nI_clamp (by omega), wyl (mnW_le _ _ _) c_51]]; exact MIq_mk (Scr.rf.row (by omega) _))
      · skip
        refine g_iload_n hX dM_soonest_24 3 rfl ?_
        refine g_bipush (v := 6) hX dM_soonest_25 (by decide) ?_
        refine g_icmp_ge hX 47 dM_soonest_27 (by decide) (fun c_27 => absurd c_27 (nI_ge (a := i0) (b := 6) hi_i0 (by omega))) (fun c_27 => ?_)
        refine g_iload_n hX dM_soonest_30 2 rfl ?_
        refine g_aload_n hX dM_soonest_31 0 rfl ?_
        refine g_get hX 0 rfl rfl 26 (by decide) uu_M q_610 rfl rfl dM_soonest_32 ?_
        refine g_iload_n hX dM_soonest_35 3 rfl ?_
        refine g_ald (v := (nI (min ((dst o t c nL) f0 i0) 10000))) hX 19 rfl i0 (by omega) (by decide) (rfl) ((congrFun (sr_eq _ _ _) _).trans (hF_F0 i0 (by omega))) dM_soonest_36 ?_
        refine g_mmin (z := (nI (mnW (dst o t c nL) f0 (i0 + 1)))) hX q_704 q_298 q_12 q_299 dM_soonest_37 (by decide) (Nat.le_of_ble_eq_true rfl) (mn_nI (Nat.lt_of_le_of_lt (mnW_le _ _ _) (by decide)) (by omega)) ?_
        refine g_istore_n (lv1 := [(0, .ref h), (1, .int (nI f0)), (2, .int (nI (mnW (dst o t c nL) f0 (i0 + 1)))), (3, .int (nI i0))]) hX dM_soonest_40 (by decide) [1, 2, 0, 3] rfl ?_
        refine g_iinc (v := (nI (i0 + 1))) (lv1 := [(0, .ref h), (1, .int (nI f0)), (2, .int (nI (mnW (dst o t c nL) f0 (i0 + 1)))), (3, .int (nI (i0 + 1)))]) hX dM_soonest_41 3 rfl (inc_nat _) (by decide) [1, 2, 3, 0] rfl ?_
        refine g_goto hX 24 dM_soonest_44 (by decide) ?_
        exact ih_i0
    exact hL_24 0 (Nat.zero_le _)
  · refine g_aload_n hX dM_soonest_7 0 rfl ?_
    refine g_iconst (v := (-1)) hX dM_soonest_8 (by decide) ?_
    refine g_callV hX (con_M_no l Z h q S (-1) 1 (by decide) (by decide)) mvM_no q_676 rfl (by decide) 0 rfl rfl rfl (Nat.le_of_ble_eq_true rfl) dM_soonest_9 [0, 1, 2, 3, 4, 5, 6, 7, 8, 9, 10, 11, 12, 13, 14, 15, 16, 17, 18, 19, 20, 21] rfl (subM_all Z h q S) (g_fn (ws1 := wM Z h q (nob S 1)) (st1 := [.int (-1)]) (putM_all Z h q S (nob S 1)) rfl ?_)
    exact r_iret hX hQ dM_soonest_12 keysM (by rw [show mf_soonest S (dst o t c nL) x = ((-1), nob S 1) from by simp [mf_soonest, c_4]]; exact MIq_mk (Scr.rf))
set_option maxHeartbeats 4000000 in
set_option maxRecDepth 20000 in
theorem con_M_farthest (l : Launch) (Z : ZZ) (h : Nat) (q : Nat → Nat) (S : St) (w : Int32) (nL : Nat) (hL : S 12 0 = nI nL) (hL8 : nL ≤ 8) (o t c : Nat → Nat) (hLk : Lks S nL o t c) (hc1 : ∀ g, g < nL → 1 ≤ c g) : Con l Z yM_farthest cM_farthest 4 (some .int) 3 [.ref h, .int w] (wM Z h q S) (MIq Z h q nL (mf_farthest S (dst o t c nL) w)) := by
  refine Con.of (by decide) (Nat.le_of_ble_eq_true rfl) (fun X hX hQ => ?_)
  show G X Z (wM Z h q S) 0 [(0, .ref h), (1, .int w)] []
  refine g_iload_n hX dM_farthest_0 1 rfl ?_
  refine g_iconst (v := 0) hX dM_farthest_1 (by decide) ?_
  refine g_iconst (v := 1) hX dM_farthest_2 (by decide) ?_
  refine g_callS hX (con_M_within l Z w 0 1) msM_within q_762 rfl (by decide) rfl (Nat.le_of_ble_eq_true rfl) dM_farthest_3 [] rfl (rfl) (g_fn (ws1 := wM Z h q S) (st1 := [.int (wthS w 0 1)]) (rfl) rfl ?_)
  refine g_if_ne hX 16 dM_farthest_6 (by decide) (fun c_6 => ?_) (fun c_6 => ?_)
  · refine g_aload_n hX dM_farthest_16 0 rfl ?_
    refine g_bipush (v := 6) hX dM_farthest_17 (by decide) ?_
    refine g_callV hX (con_M_walk l Z h q S nL hL hL8 o t c hLk hc1 6 (by omega)) mvM_walk q_855 rfl (by decide) 0 rfl rfl rfl (Nat.le_of_ble_eq_true rfl) dM_farthest_19 [0, 1, 2, 3, 4, 5, 6, 7, 8, 9, 10, 11, 12, 13, 14, 15, 16, 17, 18, 19, 20, 21] rfl (subM_all Z h q S) (fun v w hp => ?_)
    obtain ⟨rfl, F0, hF_F0, rfl⟩ := hp
    refine g_eq (ws1 := wM Z h q (sr S 19 F0)) (st1 := []) (putM_all Z h q S _) rfl rfl ?_
    refine g_bipush (v := (-9)) hX dM_farthest_22 (by decide) ?_
    refine g_istore_n (lv1 := [(0, .ref h), (1, .int w), (2, .int (-9))]) hX dM_farthest_24 (by decide) [1, 2, 0] rfl ?_
    refine g_iconst (v := 0) hX dM_farthest_25 (by decide) ?_
    refine g_istore_n (lv1 := [(0, .ref h), (1, .int w), (2, .int (-9)), (3, .int 0)]) hX dM_farthest_26 (by decide) [1, 2, 3, 0] rfl ?_
    have hL_27 : ∀ i0, i0 ≤ 6 → ∀ (f1 : Int32), f1 = fmR (dst o t c nL) i0 → G X Z (wM Z h q (sr S 19 F0)) 27 [(0, .ref h), (1, .int w), (2, .int f1), (3, .int (nI i0))] [] := by
      refine loopUp _ 6 ?_ (fun i0 hi_i0 ih_i0 => ?_)
      · intro f1 hq_i0
        refine g_iload_n hX dM_farthest_27 3 rfl ?_
        refine g_bipush (v := 6) hX dM_farthest_28 (by decide) ?_
        refine g_icmp_ge hX 72 dM_farthest_30 (by decide) (fun c_30 => ?_) (fun c_30 => absurd (nI_le (a := 6) (b := 6) (Nat.le_refl _) (by omega)) c_30)
        refine g_iload_n hX dM_farthest_72 2 rfl ?_
        refine g_if_lt hX 80 dM_farthest_73 (by decide) (fun c_73 => ?_) (fun c_73 => ?_)
        · refine g_iload_n hX dM_farthest_80 2 rfl ?_
          refine g_goto hX 90 dM_farthest_81 (by decide) ?_
          exact r_iret hX hQ dM_farthest_90 keysM (by rw [show mf_farthest S (dst o t c nL) w = (f1, S) from by rw [mf_farthest, if_neg c_6, ← hq_i0, if_pos c_73]]; exact MIq_mk (Scr.rf.row (by omega) _))
        · refine g_iload_n hX dM_farthest_76 1 rfl ?_
          refine g_if_ne hX 84 dM_farthest_77 (by decide) (fun c_77 => ?_) (fun c_77 => ?_)
          · obtain ⟨r9, hr9, er9, hD9⟩ : ∃ r, r < 6 ∧ f1 = nI r ∧ (dst o t c nL) 6 r < 10000 := by rw [hq_i0] at c_73 ⊢; exact fm_of (by omega) c_73
            refine g_aload_n hX dM_farthest_84 0 rfl ?_
            refine g_get hX 0 rfl rfl 26 (by decide) uu_M q_610 rfl rfl dM_farthest_85 ?_
            refine g_iload_n hX dM_farthest_88 2 rfl ?_
            refine g_ald (v := (nI ((dst o t c nL) 6 r9))) hX 19 rfl r9 (by omega) (by decide) (er9) (by rw [sr_eq, hF_F0 r9 (by omega), Nat.min_eq_left (Nat.le_of_lt hD9)]) dM_farthest_89 ?_
            exact r_iret hX hQ dM_farthest_90 keysM (by rw [show mf_farthest S (dst o t c nL) w = ((nI ((dst o t c nL) 6 r9)), S) from by rw [mf_farthest, if_neg c_6, ← hq_i0, if_neg c_73, if_pos c_77, er9, show cl (nI r9) = r9 from nI_clamp (by omega)]]; exact MIq_mk (Scr.rf.row (by omega) _))
          · refine g_iload_n hX dM_farthest_80 2 rfl ?_
            refine g_goto hX 90 dM_farthest_81 (by decide) ?_
            exact r_iret hX hQ dM_farthest_90 keysM (by rw [show mf_farthest S (dst o t c nL) w = (f1, S) from by rw [mf_farthest, if_neg c_6, ← hq_i0, if_neg c_73, if_neg (fun z => z c_77)]]; exact MIq_mk (Scr.rf.row (by omega) _))
      · intro f1 hq_i0
        refine g_iload_n hX dM_farthest_27 3 rfl ?_
        refine g_bipush (v := 6) hX dM_farthest_28 (by decide) ?_
        refine g_icmp_ge hX 72 dM_farthest_30 (by decide) (fun c_30 => absurd c_30 (nI_ge (a := i0) (b := 6) hi_i0 (by omega))) (fun c_30 => ?_)
        refine g_aload_n hX dM_farthest_33 0 rfl ?_
        refine g_get hX 0 rfl rfl 26 (by decide) uu_M q_610 rfl rfl dM_farthest_34 ?_
        refine g_iload_n hX dM_farthest_37 3 rfl ?_
        refine g_ald (v := (nI (min ((dst o t c nL) 6 i0) 10000))) hX 19 rfl i0 (by omega) (by decide) (rfl) ((congrFun (sr_eq _ _ _) _).trans (hF_F0 i0 (by omega))) dM_farthest_38 ?_
        refine g_sipush (v := 10000) hX dM_farthest_39 (by decide) ?_
        refine g_icmp_ge hX 66 dM_farthest_42 (by decide) (fun c_42 => ?_) (fun c_42 => ?_)
        · refine g_iinc (v := (nI (i0 + 1))) (lv1 := [(0, .ref h), (1, .int w), (2, .int f1), (3, .int (nI (i0 + 1)))]) hX dM_farthest_66 3 rfl (inc_nat _) (by decide) [1, 2, 3, 0] rfl ?_
          refine g_goto hX 27 dM_farthest_69 (by decide) ?_
          exact ih_i0 f1 (fm_skip hq_i0 c_42)
        · refine g_iload_n hX dM_farthest_45 2 rfl ?_
          refine g_if_lt hX 64 dM_farthest_46 (by decide) (fun c_46 => ?_) (fun c_46 => ?_)
          · refine g_iload_n hX dM_farthest_64 3 rfl ?_
            refine g_istore_n (lv1 := [(0, .ref h), (1, .int w), (2, .int (nI i0)), (3, .int (nI i0))]) hX dM_farthest_65 (by decide) [1, 2, 0, 3] rfl ?_
            refine g_iinc (v := (nI (i0 + 1))) (lv1 := [(0, .ref h), (1, .int w), (2, .int (nI i0)), (3, .int (nI (i0 + 1)))]) hX dM_farthest_66 3 rfl (inc_nat _) (by decide) [1, 2, 3, 0] rfl ?_
            refine g_goto hX 27 dM_farthest_69 (by decide) ?_
            exact ih_i0 (nI i0) (fm_first hq_i0 c_42 c_46)
          · obtain ⟨r1, hr1, er1, hD1⟩ : ∃ r, r < 6 ∧ f1 = nI r ∧ (dst o t c nL) 6 r < 10000 := by rw [hq_i0] at c_46 ⊢; exact fm_of (by omega) c_46
            refine g_aload_n hX dM_farthest_49 0 rfl ?_
            refine g_get hX 0 rfl rfl 26 (by decide) uu_M q_610 rfl rfl dM_farthest_50 ?_
            refine g_iload_n hX dM_farthest_53 3 rfl ?_
            refine g_ald (v := (nI (min ((dst o t c nL) 6 i0) 10000))) hX 19 rfl i0 (by omega) (by decide) (rfl) ((congrFun (sr_eq _ _ _) _).trans (hF_F0 i0 (by omega))) dM_farthest_54 ?_
            refine g_aload_n hX dM_farthest_55 0 rfl ?_
            refine g_get hX 0 rfl rfl 26 (by decide) uu_M q_610 rfl rfl dM_farthest_56 ?_
            refine g_iload_n hX dM_farthest_59 2 rfl ?_
            refine g_ald (v := (nI (min ((dst o t c nL) 6 r1) 10000))) hX 19 rfl r1 (by omega) (by decide) (er1) ((congrFun (sr_eq _ _ _) _).trans (hF_F0 r1 (by omega))) dM_farthest_60 ?_
            refine g_icmp_le hX 66 dM_farthest_61 (by decide) (fun c_61 => ?_) (fun c_61 => ?_)
            · refine g_iinc (v := (nI (i0 + 1))) (lv1 := [(0, .ref h), (1, .int w), (2, .int f1), (3, .int (nI (i0 + 1)))]) hX dM_farthest_66 3 rfl (inc_nat _) (by decide) [1, 2, 3, 0] rfl ?_
              refine g_goto hX 27 dM_farthest_69 (by decide) ?_
              exact ih_i0 f1 (fm_keep hq_i0 c_42 c_46 er1 hr1 c_61)
            · refine g_iload_n hX dM_farthest_64 3 rfl ?_
              refine g_istore_n (lv1 := [(0, .ref h), (1, .int w), (2, .int (nI i0)), (3, .int (nI i0))]) hX dM_farthest_65 (by decide) [1, 2, 0, 3] rfl ?_
              refine g_iinc (v := (nI (i0 + 1))) (lv1 := [(0, .ref h), (1, .int w), (2, .int (nI i0)), (3, .int (nI (i0 + 1)))]) hX dM_farthest_66 3 rfl (inc_nat _) (by decide) [1, 2, 3, 0] rfl ?_
              refine g_goto hX 27 dM_farthest_69 (by decide) ?_
              exact ih_i0 (nI i0) (fm_new hq_i0 c_42 c_46 er1 hr1 hD1 c_61)
    exact hL_27 0 (Nat.zero_le _) (-9) (rfl)
  · refine g_aload_n hX dM_farthest_9 0 rfl ?_
    refine g_bipush (v := (-2)) hX dM_farthest_10 (by decide) ?_
    refine g_callV hX (con_M_no l Z h q S (-2) 2 (by decide) (by decide)) mvM_no q_676 rfl (by decide) 0 rfl rfl rfl (Nat.le_of_ble_eq_true rfl) dM_farthest_12 [0, 1, 2, 3, 4, 5, 6, 7, 8, 9, 10, 11, 12, 13, 14, 15, 16, 17, 18, 19, 20, 21] rfl (subM_all Z h q S) (g_fn (ws1 := wM Z h q (nob S 2)) (st1 := [.int (-2)]) (putM_all Z h q S (nob S 2)) rfl ?_)
    exact r_iret hX hQ dM_farthest_15 keysM (by rw [show mf_farthest S (dst o t c nL) w = ((-2), nob S 2) from by simp [mf_farthest, c_6]]; exact MIq_mk (Scr.rf))
