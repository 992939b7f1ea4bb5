/-! the Model: minutes -/
theorem nt_P {X S T : St} {nP : Nat} (h : T = nt X S) (hX : X 12 1 = nI nP) : T 12 1 = nI nP := by
  rw [h]
  unfold nt
  rw [swv, if_neg (by decide), swv, if_neg (by decide)]
  exact hX
theorem left_eq {S X T : St} {nP a : Nat} (hV : Vd X nP) (hT : T = nt (lmA nP X a) S) (ha : a < 6) : T 0 a - T 1 a - mbs T nP (nI a) nP = leftS (lmA nP X a) nP a := by
  have r : ∀ k, k ≠ 12 → T k = lmA nP X a k := fun k hk => by rw [hT, nt_row _ _ hk]
  have hV2 : Vd T nP := fun p hp => by
    rw [r 7 (by decide), r 8 (by decide), r 10 (by decide), lmA_row _ _ (by decide), lmA_row _ _ (by decide), lmA_row _ _ (by decide)]
    exact hV p hp
  rw [mbs_eq hV2 ha nP (Nat.le_refl _), r 0 (by decide), r 1 (by decide)]
  unfold leftS
  congr 1
  exact bin_cong (r 7 (by decide)) (r 8 (by decide)) (nI a)
theorem ga_1 {S X T : St} {nP a : Nat} {g base v : Int32} (hq : T = nt (lmA nP X a) S ∧ g = base + lmAg nP X a) (hl : v = leftS (lmA nP X a) nP a) (c : 0 ≤ v) : sw T 0 a (mx 0 v) = nt (lmA nP X (a + 1)) S ∧ g = base + lmAg nP X (a + 1) := by
  subst hl
  refine ⟨by rw [hq.1, nt_sw _ _ (by decide)]; rfl, ?_⟩
  rw [hq.2, lmAg, if_pos c]
theorem ga_2 {S X T : St} {nP a : Nat} {g base v : Int32} (hq : T = nt (lmA nP X a) S ∧ g = base + lmAg nP X a) (hl : v = leftS (lmA nP X a) nP a) (c : ¬ 0 ≤ v) : sw T 0 a (mx 0 v) = nt (lmA nP X (a + 1)) S ∧ g + cnt (T 8) (nI a) nP = base + lmAg nP X (a + 1) := by
  subst hl
  refine ⟨by rw [hq.1, nt_sw _ _ (by decide)]; rfl, ?_⟩
  rw [hq.2, lmAg, if_neg c, hq.1, nt_row _ _ (by decide), Int32.add_assoc]
theorem gb_1 {S Y T : St} {p : Nat} {g base e : Int32} (hq : T = nt (lmB Y p) S ∧ g = base + lmBg Y e p) (c : ¬ T 8 p = 6) : T = nt (lmB Y (p + 1)) S ∧ g = base + lmBg Y e (p + 1) := by
  rw [hq.1, nt_row _ _ (by decide)] at c
  refine ⟨by rw [hq.1, lmB, if_neg c], by rw [hq.2, lmBg, if_neg c]⟩
theorem gb_2 {S Y T : St} {p : Nat} {g base e : Int32} (hq : T = nt (lmB Y p) S ∧ g = base + lmBg Y e p) (c : T 8 p = 6) (c2 : T 10 p = 0) : T = nt (lmB Y (p + 1)) S ∧ g + 1 = base + lmBg Y e (p + 1) := by
  rw [hq.1, nt_row _ _ (by decide)] at c c2
  refine ⟨?_, ?_⟩
  · rw [hq.1, lmB, if_pos c, c2]
    congr 1
    apply st_ext
    intro a j
    rw [swv]
    by_cases e : a = 10 ∧ j = p
    · rw [if_pos e, e.1, e.2, c2]
      decide
    · rw [if_neg e]
  · rw [hq.2, lmBg, if_pos c, c2, Int32.add_assoc]
    rfl
theorem gb_3 {S Y T : St} {p w : Nat} {g base e : Int32} (hq : T = nt (lmB Y p) S ∧ g = base + lmBg Y e p) (hw : w < 2 ^ 31) (hY : Y 10 p = nI w) (c : T 8 p = 6) (c2 : ¬ T 10 p = 0) : sw T 10 p (T 10 p - 1) = nt (lmB Y (p + 1)) S ∧ g = base + lmBg Y e (p + 1) := by
  have h10 : T 10 p = lmB Y p 10 p := by rw [hq.1, nt_row _ _ (by decide)]
  have hs : lmB Y p 10 p = nI w := by rw [lmB_here Y p p (Nat.le_refl _)]; exact hY
  rw [hq.1, nt_row _ _ (by decide)] at c
  rw [h10] at c2
  refine ⟨?_, ?_⟩
  · rw [h10, hq.1, nt_sw _ _ (by decide), lmB, if_pos c]
    congr 2
    rw [hs] at c2 ⊢
    exact (mx_suit hw c2).symm
  · rw [hq.2, lmBg, if_pos c]
    unfold one0
    rw [if_neg c2, Int32.add_zero]
theorem gn_0 {X S : St} : (0 : Int32) = S 12 3 - S 12 3 := (Int32.sub_self _).symm
theorem gn_s {S T : St} {nP k : Nat} {g : Int32} (hq : T = nt (lmB (lmA nP (liveN nP S k) 6) nP) S ∧ g = (liveN nP S k 12 3 - S 12 3) + lmBg (lmA nP (liveN nP S k) 6) (lmAg nP (liveN nP S k) 6) nP) : T = nt (liveN nP S (k + 1)) S ∧ g = liveN nP S (k + 1) 12 3 - S 12 3 := by
  refine ⟨by rw [hq.1]; exact (nt_live nP _ S).symm, ?_⟩
  rw [hq.2]
  show _ = liveS nP (liveN nP S k) 12 3 - S 12 3
  rw [liveS_g, g_step]
  rfl
theorem wit {S : St} {nP : Nat} (hV : Vd S nP) (k : Nat) {p : Nat} (hp : p < nP) : True ∧ cl (liveN nP S k 10 p) < 2 ^ 31 ∧ lmA nP (liveN nP S k) 6 10 p = nI (cl (liveN nP S k 10 p)) := by
  obtain ⟨-, -, w, hw, e⟩ := hV.live k p hp
  rw [lmA_row _ _ (by decide), e, show cl (nI w) = w from nI_clamp hw]
  exact ⟨trivial, hw, rfl⟩
set_option maxHeartbeats 800000 in
set_option maxRecDepth 20000 in
theorem con_M_goBy (l : Launch) (Z : ZZ) (h : Nat) (q : Nat → Nat) (S : St) (n : Nat) (hn : n < 2 ^ 31) (nP : Nat) (hP : S 12 1 = nI nP) (hP5 : nP ≤ 5) (hV : Vd S nP) : Con l Z yM_goBy cM_goBy 6 (some .int) 3 [.ref h, .int (nI n)] (wM Z h q S) (Fn (some (.int (liveN nP S n 12 3 - S 12 3))) (wM Z h q (liveN nP S n))) := by
  refine Con.of (by decide) (Nat.le_of_ble_eq_true rfl) (fun X hX hQ => ?_)
  show G X Z (wM Z h q S) 0 [(0, .ref h), (1, .int (nI n))] []
  refine g_iconst (v := 0) hX dM_goBy_0 (by decide) ?_
  refine g_istore_n (lv1 := [(0, .ref h), (1, .int (nI n)), (2, .int 0)]) hX dM_goBy_1 (by decide) [1, 2, 0] rfl ?_
  refine g_iconst (v := 0) hX dM_goBy_2 (by decide) ?_
  refine g_istore_n (lv1 := [(0, .ref h), (1, .int (nI n)), (2, .int 0), (3, .int 0)]) hX dM_goBy_3 (by decide) [1, 2, 3, 0] rfl ?_
  have hL_4 : ∀ k0, k0 ≤ n → ∀ (T0 : St) (g0 : Int32), T0 = nt (liveN nP S k0) S ∧ g0 = liveN nP S k0 12 3 - S 12 3 → G X Z (wM Z h q T0) 4 [(0, .ref h), (1, .int (nI n)), (2, .int g0), (3, .int (nI k0))] [] := by
    refine loopUp _ n ?_ (fun k0 hi_k0 ih_k0 => ?_)
    · intro T0 g0 hq_k0
      refine g_iload_n hX dM_goBy_4 3 rfl ?_
      refine g_iload_n hX dM_goBy_5 1 rfl ?_
      refine g_icmp_ge hX 142 dM_goBy_6 (by decide) (fun c_6 => ?_) (fun c_6 => absurd (nI_le (a := n) (b := n) (Nat.le_refl _) (by omega)) c_6)
      refine g_aload_n hX dM_goBy_142 0 rfl ?_
      refine g_dup hX dM_goBy_143 rfl ?_
      refine g_get hX 0 rfl rfl 13 (by decide) uu_M q_597 rfl rfl dM_goBy_144 ?_
      refine g_iload_n hX dM_goBy_147 1 rfl ?_
      refine g_iadd (z := ((T0 12 2) + (nI n))) hX dM_goBy_148 (rfl) ?_
      refine g_put (ws1 := wM Z h q (sw T0 12 2 ((T0 12 2) + (nI n)))) hX 0 rfl rfl 13 (by decide) uu_M tyF_M tyF_M_ok nmF_M q_597 rfl rfl rfl rfl rfl (Nat.le_of_ble_eq_true rfl) dM_goBy_149 (fldM_S_12_2 Z h q T0 ((T0 12 2) + (nI n))) ?_
      refine g_aload_n hX dM_goBy_152 0 rfl ?_
      refine g_dup hX dM_goBy_153 rfl ?_
      refine g_get hX 0 rfl rfl 15 (by decide) uu_M q_599 rfl rfl dM_goBy_154 ?_
      refine g_iload_n hX dM_goBy_157 2 rfl ?_
      refine g_iadd (z := (((sw T0 12 2 ((T0 12 2) + (nI n))) 12 3) + g0)) hX dM_goBy_158 (rfl) ?_
      refine g_put (ws1 := wM Z h q (sw (sw T0 12 2 ((T0 12 2) + (nI n))) 12 3 (((sw T0 12 2 ((T0 12 2) + (nI n))) 12 3) + g0))) hX 0 rfl rfl 15 (by decide) uu_M tyF_M tyF_M_ok nmF_M q_599 rfl rfl rfl rfl rfl (Nat.le_of_ble_eq_true rfl) dM_goBy_159 (fldM_S_12_3 Z h q (sw T0 12 2 ((T0 12 2) + (nI n))) (((sw T0 12 2 ((T0 12 2) + (nI n))) 12 3) + g0)) ?_
      refine g_iload_n hX dM_goBy_162 2 rfl ?_
      exact r_iret hX hQ dM_goBy_163 keysM (⟨congrArg some (congrArg Value.int hq_k0.2), congrArg (wM Z h q) (go_end hq_k0.1 hq_k0.2)⟩)
    · intro T0 g0 hq_k0
      refine g_iload_n hX dM_goBy_4 3 rfl ?_
      refine g_iload_n hX dM_goBy_5 1 rfl ?_
      refine g_icmp_ge hX 142 dM_goBy_6 (by decide) (fun c_6 => absurd c_6 (nI_ge (a := k0) (b := n) hi_k0 (by omega))) (fun c_6 => ?_)
      refine g_iconst (v := 0) hX dM_goBy_9 (by decide) ?_
      refine g_istore (lv1 := [(0, .ref h), (1, .int (nI n)), (2, .int g0), (3, .int (nI k0)), (4, .int 0)]) hX dM_goBy_10 (by decide) [1, 2, 3, 4, 0] rfl ?_
      have hL_12 : ∀ a0, a0 ≤ 6 → ∀ (T1 : St) (g1 : Int32), T1 = nt (lmA nP (liveN nP S k0) a0) S ∧ g1 = ((liveN nP S k0) 12 3 - S 12 3) + lmAg nP (liveN nP S k0) a0 → G X Z (wM Z h q T1) 12 [(0, .ref h), (1, .int (nI n)), (2, .int g1), (3, .int (nI k0)), (4, .int (nI a0))] [] := by
        refine loopUp _ 6 ?_ (fun a0 hi_a0 ih_a0 => ?_)
        · intro T1 g1 hq_a0
          refine g_iload hX dM_goBy_12 4 rfl ?_
          refine g_bipush (v := 6) hX dM_goBy_14 (by decide) ?_
          refine g_icmp_ge hX 76 dM_goBy_16 (by decide) (fun c_16 => ?_) (fun c_16 => absurd (nI_le (a := 6) (b := 6) (Nat.le_refl _) (by omega)) c_16)
          refine g_iconst (v := 0) hX dM_goBy_76 (by decide) ?_
          refine g_istore (lv1 := [(0, .ref h), (1, .int (nI n)), (2, .int g1), (3, .int (nI k0)), (4, .int 0)]) hX dM_goBy_77 (by decide) [1, 2, 3, 4, 0] rfl ?_
          have hL_79 : ∀ p0, p0 ≤ nP → ∀ (T2 : St) (g2 : Int32), T2 = nt (lmB (lmA nP (liveN nP S k0) 6) p0) S ∧ g2 = ((liveN nP S k0) 12 3 - S 12 3) + lmBg (lmA nP (liveN nP S k0) 6) (lmAg nP (liveN nP S k0) 6) p0 → G X Z (wM Z h q T2) 79 [(0, .ref h), (1, .int (nI n)), (2, .int g2), (3, .int (nI k0)), (4, .int (nI p0))] [] := by
            refine loopUp _ nP ?_ (fun p0 hi_p0 ih_p0 => ?_)
            · intro T2 g2 hq_p0
              refine g_iload hX dM_goBy_79 4 rfl ?_
              refine g_aload_n hX dM_goBy_81 0 rfl ?_
              refine g_get hX 0 rfl rfl 8 (by decide) uu_M q_592 rfl rfl dM_goBy_82 ?_
              refine g_top (y := (nI nP)) (nt_P hq_p0.1 (by rw [lmB_12, lmA_12, (liveN_12 nP S _).1]; exact hP)) ?_
              refine g_icmp_ge hX 136 dM_goBy_85 (by decide) (fun c_85 => ?_) (fun c_85 => absurd (nI_le (a := nP) (b := nP) (Nat.le_refl _) (by omega)) c_85)
              refine g_iinc (v := (nI (k0 + 1))) (lv1 := [(0, .ref h), (1, .int (nI n)), (2, .int g2), (3, .int (nI (k0 + 1))), (4, .int (nI nP))]) hX dM_goBy_136 3 rfl (inc_nat _) (by decide) [1, 2, 3, 0, 4] rfl ?_
              refine g_goto hX 4 dM_goBy_139 (by decide) ?_
              refine g_lv (lv1 := [(0, .ref h), (1, .int (nI n)), (2, .int g2), (3, .int (nI (k0 + 1)))]) [0, 1, 2, 3] rfl ?_
              exact ih_k0 T2 g2 (gn_s hq_p0)
            · intro T2 g2 hq_p0
              refine g_iload hX dM_goBy_79 4 rfl ?_
              refine g_aload_n hX dM_goBy_81 0 rfl ?_
              refine g_get hX 0 rfl rfl 8 (by decide) uu_M q_592 rfl rfl dM_goBy_82 ?_
              refine g_top (y := (nI nP)) (nt_P hq_p0.1 (by rw [lmB_12, lmA_12, (liveN_12 nP S _).1]; exact hP)) ?_
              refine g_icmp_ge hX 136 dM_goBy_85 (by decide) (fun c_85 => absurd c_85 (nI_ge (a := p0) (b := nP) hi_p0 (by omega))) (fun c_85 => ?_)
              refine g_aload_n hX dM_goBy_88 0 rfl ?_
              refine g_get hX 0 rfl rfl 10 (by decide) uu_M q_594 rfl rfl dM_goBy_89 ?_
              refine g_iload hX dM_goBy_92 4 rfl ?_
              refine g_ald (v := (T2 8 p0)) hX 9 rfl p0 (by omega) (by decide) (rfl) (rfl) dM_goBy_94 ?_
              refine g_bipush (v := 6) hX dM_goBy_95 (by decide) ?_
              refine g_icmp_eq hX 103 dM_goBy_97 (by decide) (fun c_97 => ?_) (fun c_97 => ?_)
              · refine g_aload_n hX dM_goBy_103 0 rfl ?_
                refine g_get hX 0 rfl rfl 12 (by decide) uu_M q_596 rfl rfl dM_goBy_104 ?_
                refine g_iload hX dM_goBy_107 4 rfl ?_
                refine g_ald (v := (T2 10 p0)) hX 11 rfl p0 (by omega) (by decide) (rfl) (rfl) dM_goBy_109 ?_
                refine g_if_ne hX 119 dM_goBy_110 (by decide) (fun c_110 => ?_) (fun c_110 => ?_)
                · refine g_aload_n hX dM_goBy_119 0 rfl ?_
                  refine g_get hX 0 rfl rfl 12 (by decide) uu_M q_596 rfl rfl dM_goBy_120 ?_
                  refine g_iload hX dM_goBy_123 4 rfl ?_
                  refine g_dup2 hX dM_goBy_125 rfl rfl ?_
                  refine g_ald (v := (T2 10 p0)) hX 11 rfl p0 (by omega) (by decide) (rfl) (rfl) dM_goBy_126 ?_
                  refine g_iconst (v := 1) hX dM_goBy_127 (by decide) ?_
                  refine g_isub (z := ((T2 10 p0) - 1)) hX dM_goBy_128 (rfl) ?_
                  refine g_ast (ws1 := wM Z h q (sw T2 10 p0 ((T2 10 p0) - 1))) hX 11 rfl p0 (by omega) (by decide) (rfl) dM_goBy_129 (setM_S_10 Z h q T2 p0 ((T2 10 p0) - 1)) ?_
                  refine g_iinc (v := (nI (p0 + 1))) (lv1 := [(0, .ref h), (1, .int (nI n)), (2, .int g2), (3, .int (nI k0)), (4, .int (nI (p0 + 1)))]) hX dM_goBy_130 4 rfl (inc_nat _) (by decide) [1, 2, 3, 4, 0] rfl ?_
                  refine g_goto hX 79 dM_goBy_133 (by decide) ?_
                  exact ih_p0 (sw T2 10 p0 ((T2 10 p0) - 1)) g2 (gb_3 hq_p0 (wit hV k0 hi_p0).2.1 (wit hV k0 hi_p0).2.2 c_97 c_110)
                · refine g_iinc (v := (g2 + 1)) (lv1 := [(0, .ref h), (1, .int (nI n)), (2, .int (g2 + 1)), (3, .int (nI k0)), (4, .int (nI p0))]) hX dM_goBy_113 2 rfl (inc_raw _) (by decide) [1, 2, 0, 3, 4] rfl ?_
                  refine g_goto hX 130 dM_goBy_116 (by decide) ?_
                  refine g_iinc (v := (nI (p0 + 1))) (lv1 := [(0, .ref h), (1, .int (nI n)), (2, .int (g2 + 1)), (3, .int (nI k0)), (4, .int (nI (p0 + 1)))]) hX dM_goBy_130 4 rfl (inc_nat _) (by decide) [1, 2, 3, 4, 0] rfl ?_
                  refine g_goto hX 79 dM_goBy_133 (by decide) ?_
                  exact ih_p0 T2 (g2 + 1) (gb_2 hq_p0 c_97 c_110)
              · refine g_goto hX 130 dM_goBy_100 (by decide) ?_
                refine g_iinc (v := (nI (p0 + 1))) (lv1 := [(0, .ref h), (1, .int (nI n)), (2, .int g2), (3, .int (nI k0)), (4, .int (nI (p0 + 1)))]) hX dM_goBy_130 4 rfl (inc_nat _) (by decide) [1, 2, 3, 4, 0] rfl ?_
                refine g_goto hX 79 dM_goBy_133 (by decide) ?_
                exact ih_p0 T2 g2 (gb_1 hq_p0 c_97)
          exact hL_79 0 (Nat.zero_le _) T1 g1 (hq_a0)
        · intro T1 g1 hq_a0
          refine g_iload hX dM_goBy_12 4 rfl ?_
          refine g_bipush (v := 6) hX dM_goBy_14 (by decide) ?_
          refine g_icmp_ge hX 76 dM_goBy_16 (by decide) (fun c_16 => absurd c_16 (nI_ge (a := a0) (b := 6) hi_a0 (by omega))) (fun c_16 => ?_)
          refine g_aload_n hX dM_goBy_19 0 rfl ?_
          refine g_get hX 0 rfl rfl 0 (by decide) uu_M q_584 rfl rfl dM_goBy_20 ?_
          refine g_iload hX dM_goBy_23 4 rfl ?_
          refine g_ald (v := (T1 0 a0)) hX 1 rfl a0 (by omega) (by decide) (rfl) (rfl) dM_goBy_25 ?_
          refine g_aload_n hX dM_goBy_26 0 rfl ?_
          refine g_get hX 0 rfl rfl 1 (by decide) uu_M q_585 rfl rfl dM_goBy_27 ?_
          refine g_iload hX dM_goBy_30 4 rfl ?_
          refine g_ald (v := (T1 1 a0)) hX 2 rfl a0 (by omega) (by decide) (rfl) (rfl) dM_goBy_32 ?_
          refine g_isub (z := ((T1 0 a0) - (T1 1 a0))) hX dM_goBy_33 (rfl) ?_
          refine g_aload_n hX dM_goBy_34 0 rfl ?_
          refine g_iload hX dM_goBy_35 4 rfl ?_
          refine g_callV hX (con_M_breathed l Z h q T1 (nI a0) nP (nt_P hq_a0.1 (by rw [lmA_12, (liveN_12 nP S _).1]; exact hP)) hP5) mvM_breathed q_784 rfl (by decide) 0 rfl rfl rfl (Nat.le_of_ble_eq_true rfl) dM_goBy_37 [0, 1, 2, 3, 4, 5, 6, 7, 8, 9, 10, 11, 12, 13, 14, 15, 16, 17, 18, 19, 20, 21] rfl (subM_all Z h q T1) (g_fn (ws1 := wM Z h q T1) (st1 := [.int (mbs T1 nP (nI a0) nP), .int ((T1 0 a0) - (T1 1 a0))]) (putM_all Z h q T1 T1) rfl ?_)
          refine g_isub (z := (((T1 0 a0) - (T1 1 a0)) - (mbs T1 nP (nI a0) nP))) hX dM_goBy_40 (rfl) ?_
          refine g_istore (lv1 := [(0, .ref h), (1, .int (nI n)), (2, .int g1), (3, .int (nI k0)), (4, .int (nI a0)), (5, .int (((T1 0 a0) - (T1 1 a0)) - (mbs T1 nP (nI a0) nP)))]) hX dM_goBy_41 (by decide) [1, 2, 3, 4, 5, 0] rfl ?_
          refine g_iload hX dM_goBy_43 5 rfl ?_
          refine g_if_ge hX 57 dM_goBy_45 (by decide) (fun c_45 => ?_) (fun c_45 => ?_)
          · refine g_aload_n hX dM_goBy_57 0 rfl ?_
            refine g_get hX 0 rfl rfl 0 (by decide) uu_M q_584 rfl rfl dM_goBy_58 ?_
            refine g_iload hX dM_goBy_61 4 rfl ?_
            refine g_iconst (v := 0) hX dM_goBy_63 (by decide) ?_
            refine g_iload hX dM_goBy_64 5 rfl ?_
            refine g_mmax (z := (mx 0 (((T1 0 a0) - (T1 1 a0)) - (mbs T1 nP (nI a0) nP)))) hX q_705 q_301 q_12 q_302 dM_goBy_66 (by decide) (Nat.le_of_ble_eq_true rfl) (rfl) ?_
            refine g_ast (ws1 := wM Z h q (sw T1 0 a0 (mx 0 (((T1 0 a0) - (T1 1 a0)) - (mbs T1 nP (nI a0) nP))))) hX 1 rfl a0 (by omega) (by decide) (rfl) dM_goBy_69 (setM_S_0 Z h q T1 a0 (mx 0 (((T1 0 a0) - (T1 1 a0)) - (mbs T1 nP (nI a0) nP)))) ?_
            refine g_iinc (v := (nI (a0 + 1))) (lv1 := [(0, .ref h), (1, .int (nI n)), (2, .int g1), (3, .int (nI k0)), (4, .int (nI (a0 + 1))), (5, .int (((T1 0 a0) - (T1 1 a0)) - (mbs T1 nP (nI a0) nP)))]) hX dM_goBy_70 4 rfl (inc_nat _) (by decide) [1, 2, 3, 4, 0, 5] rfl ?_
            refine g_goto hX 12 dM_goBy_73 (by decide) ?_
            refine g_lv (lv1 := [(0, .ref h), (1, .int (nI n)), (2, .int g1), (3, .int (nI k0)), (4, .int (nI (a0 + 1)))]) [0, 1, 2, 3, 4] rfl ?_
            exact ih_a0 (sw T1 0 a0 (mx 0 (((T1 0 a0) - (T1 1 a0)) - (mbs T1 nP (nI a0) nP)))) g1 (ga_1 hq_a0 (left_eq (hV.live k0) hq_a0.1 hi_a0) c_45)
          · refine g_iload_n hX dM_goBy_48 2 rfl ?_
            refine g_aload_n hX dM_goBy_49 0 rfl ?_
            refine g_iload hX dM_goBy_50 4 rfl ?_
            refine g_callV hX (con_M_there l Z h q T1 (nI a0) nP (nt_P hq_a0.1 (by rw [lmA_12, (liveN_12 nP S _).1]; exact hP)) hP5) mvM_there q_780 rfl (by decide) 0 rfl rfl rfl (Nat.le_of_ble_eq_true rfl) dM_goBy_52 [0, 1, 2, 3, 4, 5, 6, 7, 8, 9, 10, 11, 12, 13, 14, 15, 16, 17, 18, 19, 20, 21] rfl (subM_all Z h q T1) (g_fn (ws1 := wM Z h q T1) (st1 := [.int (cnt (T1 8) (nI a0) nP), .int g1]) (putM_all Z h q T1 T1) rfl ?_)
            refine g_iadd (z := (g1 + (cnt (T1 8) (nI a0) nP))) hX dM_goBy_55 (rfl) ?_
            refine g_istore_n (lv1 := [(0, .ref h), (1, .int (nI n)), (2, .int (g1 + (cnt (T1 8) (nI a0) nP))), (3, .int (nI k0)), (4, .int (nI a0)), (5, .int (((T1 0 a0) - (T1 1 a0)) - (mbs T1 nP (nI a0) nP)))]) hX dM_goBy_56 (by decide) [1, 2, 0, 3, 4, 5] rfl ?_
            refine g_aload_n hX dM_goBy_57 0 rfl ?_
            refine g_get hX 0 rfl rfl 0 (by decide) uu_M q_584 rfl rfl dM_goBy_58 ?_
            refine g_iload hX dM_goBy_61 4 rfl ?_
            refine g_iconst (v := 0) hX dM_goBy_63 (by decide) ?_
            refine g_iload hX dM_goBy_64 5 rfl ?_
            refine g_mmax (z := (mx 0 (((T1 0 a0) - (T1 1 a0)) - (mbs T1 nP (nI a0) nP)))) hX q_705 q_301 q_12 q_302 dM_goBy_66 (by decide) (Nat.le_of_ble_eq_true rfl) (rfl) ?_
            refine g_ast (ws1 := wM Z h q (sw T1 0 a0 (mx 0 (((T1 0 a0) - (T1 1 a0)) - (mbs T1 nP (nI a0) nP))))) hX 1 rfl a0 (by omega) (by decide) (rfl) dM_goBy_69 (setM_S_0 Z h q T1 a0 (mx 0 (((T1 0 a0) - (T1 1 a0)) - (mbs T1 nP (nI a0) nP)))) ?_
            refine g_iinc (v := (nI (a0 + 1))) (lv1 := [(0, .ref h), (1, .int (nI n)), (2, .int (g1 + (cnt (T1 8) (nI a0) nP))), (3, .int (nI k0)), (4, .int (nI (a0 + 1))), (5, .int (((T1 0 a0) - (T1 1 a0)) - (mbs T1 nP (nI a0) nP)))]) hX dM_goBy_70 4 rfl (inc_nat _) (by decide) [1, 2, 3, 4, 0, 5] rfl ?_
            refine g_goto hX 12 dM_goBy_73 (by decide) ?_
            refine g_lv (lv1 := [(0, .ref h), (1, .int (nI n)), (2, .int (g1 + (cnt (T1 8) (nI a0) nP))), (3, .int (nI k0)), (4, .int (nI (a0 + 1)))]) [0, 1, 2, 3, 4] rfl ?_
            exact ih_a0 (sw T1 0 a0 (mx 0 (((T1 0 a0) - (T1 1 a0)) - (mbs T1 nP (nI a0) nP)))) (g1 + (cnt (T1 8) (nI a0) nP)) (ga_2 hq_a0 (left_eq (hV.live k0) hq_a0.1 hi_a0) c_45)
      exact hL_12 0 (Nat.zero_le _) T0 g0 (⟨hq_k0.1, by rw [hq_k0.2]; exact (Int32.add_zero _).symm⟩)
  exact hL_4 0 (Nat.zero_le _) S 0 (⟨(nt_self S).symm, gn_0 (X := S)⟩)
