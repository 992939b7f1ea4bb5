/-! the Model: errands -/
/-- the ways as the Model has them -/
def capD (D : Nat → Nat → Nat) : Nat → Nat → Nat := fun p q => min (D p q) 10000
theorem has_n : ∀ b, b < 128 → ∀ n, n < 7 → hasS (nI b) (nI n) = if b ||| 2 ^ n = b then 1 else 0 := by decide +kernel
theorem or127 : ∀ x, x < 128 → x ||| 127 = 127 := by decide +kernel
theorem sub_n : ∀ pl, pl < 128 → ∀ b, b < 128 → ((nI pl &&& (nI b ^^^ (-1)) = 0) ↔ pl ||| b = b) := by decide +kernel
def Er (S V : St) (E : Nat → Nat) : Prop := (∀ k, k < 896 → V 20 k = nI (E k)) ∧ ∀ k, k ≠ 19 → k ≠ 20 → V k = S k
theorem Er.up {S V : St} {E : Nat → Nat} (h : Er S V E) (j v : Nat) : Er S (sw V 20 j (nI v)) (upN E j v) := by
  refine ⟨fun k hk => ?_, fun k h1 h2 => by rw [sw_ne _ _ _ h2]; exact h.2 k h1 h2⟩
  rw [swv]
  unfold upN
  by_cases e : k = j
  · rw [if_pos ⟨rfl, e⟩, if_pos e]
  · rw [if_neg (fun q => e q.2), if_neg e]
    exact h.1 k hk
theorem Er.row {S V : St} {E : Nat → Nat} (h : Er S V E) (F : Nat → Int32) : Er S (sr V 19 F) E := ⟨fun k hk => by rw [sr_ne _ _ (by decide)]; exact h.1 k hk, fun k h1 h2 => by rw [sr_ne _ _ h1]; exact h.2 k h1 h2⟩
theorem Er.scr {S V : St} {E : Nat → Nat} {nL : Nat} (h : Er S V E) : Scr nL S V := fun k _ _ h19 h20 _ j _ _ => by rw [h.2 k h19 h20]
theorem Er.cong {S V : St} {E E' : Nat → Nat} (h : Er S V E) (he : ∀ k, E' k = E k) : Er S V E' := ⟨fun k hk => by rw [he]; exact h.1 k hk, h.2⟩
def E0m (f : Nat) : Nat → Nat := upN (fun _ => 10000) (2 ^ f * 7 + f) 0
theorem E0m_le (f k : Nat) : E0m f k ≤ 10000 := by show (if k = _ then 0 else 10000) ≤ 10000; split <;> omega
theorem erA_le {D : Nat → Nat → Nat} {all b : Nat} {E : Nat → Nat} : ∀ n k, erA D all b E n k ≤ E k
  | 0, _ => Nat.le_refl _
  | n + 1, k => Nat.le_trans (gof_le 7 k) (erA_le n k)
theorem erB_le {D : Nat → Nat → Nat} {all : Nat} {E : Nat → Nat} : ∀ n k, erB D all E n k ≤ E k
  | 0, _ => Nat.le_refl _
  | n + 1, k => Nat.le_trans (erA_le 7 k) (erB_le n k)
/-- the Model's table: when it comes to a place -/
def erM (D : Nat → Nat → Nat) (f b p : Nat) : Nat → Nat := erA (capD D) 127 b (erB (capD D) 127 (E0m f) b) p
theorem erM_le (D : Nat → Nat → Nat) (f b p k : Nat) : erM D f b p k ≤ 10000 := Nat.le_trans (erA_le p k) (Nat.le_trans (erB_le b k) (E0m_le f k))
def bsA (D : Nat → Nat → Nat) (f pl b s : Nat) : Nat → Nat
  | 0 => s
  | p + 1 => if pl ||| b = b then min (bsA D f pl b s p) (erM D f b p (b * 7 + p)) else bsA D f pl b s p
def bsB (D : Nat → Nat → Nat) (f pl : Nat) : Nat → Nat
  | 0 => 10000
  | b + 1 => bsA D f pl b (bsB D f pl b) 7
theorem bsA_le {D : Nat → Nat → Nat} {f pl b s : Nat} : ∀ p, bsA D f pl b s p ≤ s
  | 0 => Nat.le_refl _
  | p + 1 => by
    have ih := bsA_le (D := D) (f := f) (pl := pl) (b := b) (s := s) p
    rw [bsA]
    split
    · omega
    · exact ih
theorem bsB_le (D : Nat → Nat → Nat) (f pl : Nat) : ∀ b, bsB D f pl b ≤ 10000
  | 0 => Nat.le_refl _
  | b + 1 => Nat.le_trans (bsA_le 7) (bsB_le D f pl b)
theorem gof_skip {D : Nat → Nat → Nat} {E : Nat → Nat} {b p all : Nat} (hE : ∀ k, E k ≤ 10000) (h : 10000 ≤ E (b * 7 + p)) : ∀ n k, gof D E b p all n k = E k
  | 0, _ => rfl
  | n + 1, k => by
    have ih := gof_skip (D := D) (all := all) hE h n
    rw [gof]
    split
    · exact ih k
    · split
      · unfold upN
        split
        · next e =>
          have := hE k
          rw [ih, e]
          rw [e] at this
          omega
        · exact ih k
      · exact ih k
theorem gfm_has {D : Nat → Nat → Nat} {E : Nat → Nat} {b p n : Nat} (hb : b < 128) (hn : n < 7) (h : ¬ hasS (nI b) (nI n) = 0) : gof D E b p 127 (n + 1) = gof D E b p 127 n := by
  rw [has_n b hb n hn] at h
  rw [gof, if_pos]
  by_cases e : b ||| 2 ^ n = b
  · exact e
  · exact absurd (if_neg e) h
theorem gfm_go {D : Nat → Nat → Nat} {E : Nat → Nat} {b p n : Nat} (hb : b < 128) (hn : n < 7) (h : hasS (nI b) (nI n) = 0) : gof D E b p 127 (n + 1) = upN (gof D E b p 127 n) ((b ||| 2 ^ n) * 7 + n) (min (gof D E b p 127 n ((b ||| 2 ^ n) * 7 + n)) (E (b * 7 + p) + D p n)) := by
  rw [has_n b hb n hn] at h
  rw [gof, if_neg, if_pos (or127 _ (or128 hb (pow7 n hn)))]
  intro e
  rw [if_pos e] at h
  exact absurd h (by decide)
def Ei (V : St) (i : Nat) : Prop := ∀ k, k < i → V 20 k = 10000
theorem err_go {S V : St} (f : Nat) (h : Ei V 896) (hr : ∀ k, k ≠ 20 → V k = S k) : Er S (sw V 20 (2 ^ f * 7 + f) 0) (E0m f) := by
  have : Er S V (fun _ => 10000) := ⟨fun k hk => h k hk, fun k _ h2 => hr k h2⟩
  exact this.up _ 0
theorem Ei.step {V : St} {i : Nat} (h : Ei V i) : Ei (sw V 20 i 10000) (i + 1) := fun k hk => by
  rw [swv]
  by_cases e : k = i
  · rw [if_pos ⟨rfl, e⟩]
  · rw [if_neg (fun q => e q.2)]
    exact h k (by omega)
def mf_errands (S : St) (D : Nat → Nat → Nat) (x y : Int32) : Int32 × St := if isPlaceS x = 0 then (-1, nob S 1) else if wthS y 0 127 = 0 then (-1, nob S 1) else (wy (bsB D (cl x) (cl y) 128), S)
theorem wpl_of {y : Int32} (h : ¬ wthS y 0 127 = 0) : ∃ pl, pl < 128 ∧ y = nI pl := by
  unfold wthS at h
  by_cases h1 : y < 0
  · rw [if_pos h1] at h
    exact absurd rfl h
  · rw [if_neg h1] at h
    by_cases h2 : 127 < y
    · rw [if_pos h2] at h
      exact absurd rfl h
    · obtain ⟨j, h4, h5, rfl⟩ := mins_of (a := 0) (b := 127) (na := 0) (nb := 127) rfl rfl (by decide) (by decide) (Int32.not_lt.mp h1) h2
      exact ⟨j, by omega, rfl⟩
theorem bs_skip {D : Nat → Nat → Nat} {f pl b s p e : Nat} (h : e = bsA D f pl b s p) (he : e ≤ 10000) (hs : 10000 ≤ erM D f b p (b * 7 + p)) : e = bsA D f pl b s (p + 1) := by
  rw [bsA, ← h]
  split
  · omega
  · rfl
theorem bs_no {D : Nat → Nat → Nat} {f pl b s p e : Nat} (h : e = bsA D f pl b s p) (hpl : pl < 128) (hb : b < 128) (hc : ¬ nI pl &&& (nI b ^^^ (-1)) = 0) : e = bsA D f pl b s (p + 1) := by
  rw [bsA, ← h, if_neg (fun q => hc ((sub_n pl hpl b hb).mpr q))]
theorem bs_yes {D : Nat → Nat → Nat} {f pl b s p e : Nat} (h : e = bsA D f pl b s p) (hpl : pl < 128) (hb : b < 128) (hc : nI pl &&& (nI b ^^^ (-1)) = 0) : min e (erM D f b p (b * 7 + p)) = bsA D f pl b s (p + 1) := by
  rw [bsA, ← h, if_pos ((sub_n pl hpl b hb).mp hc)]
set_option maxHeartbeats 4000000 in
set_option maxRecDepth 20000 in
theorem con_M_errands (l : Launch) (Z : ZZ) (h : Nat) (q : Nat → Nat) (S : St) (x y : Int32) (nL : Nat) (hL : S 12 0 = nI nL) (hL8 : nL ≤ 8) (o t c : Nat → Nat) (hLk : Lks S nL o t c) (hc1 : ∀ g, g < nL → 1 ≤ c g) : Con l Z yM_errands cM_errands 9 (some .int) 3 [.ref h, .int x, .int y] (wM Z h q S) (MIq Z h q nL (mf_errands S (dst o t c nL) x y)) := by
  refine Con.of (by decide) (Nat.le_of_ble_eq_true rfl) (fun X hX hQ => ?_)
  show G X Z (wM Z h q S) 0 [(0, .ref h), (1, .int x), (2, .int y)] []
  refine g_iload_n hX dM_errands_0 1 rfl ?_
  refine g_callS hX (con_M_isPlace l Z x) msM_isPlace q_852 rfl (by decide) rfl (Nat.le_of_ble_eq_true rfl) dM_errands_1 [] rfl (rfl) (g_fn (ws1 := wM Z h q S) (st1 := [.int (isPlaceS x)]) (rfl) rfl ?_)
  refine g_if_eq hX 17 dM_errands_4 (by decide) (fun c_4 => ?_) (fun c_4 => ?_)
  · refine g_aload_n hX dM_errands_17 0 rfl ?_
    refine g_iconst (v := (-1)) hX dM_errands_18 (by decide) ?_
    refine g_callV hX (con_M_no l Z h q S (-1) 1 (by decide) (by decide)) mvM_no q_676 rfl (by decide) 0 rfl rfl rfl (Nat.le_of_ble_eq_true rfl) dM_errands_19 [0, 1, 2, 3, 4, 5, 6, 7, 8, 9, 10, 11, 12, 13, 14, 15, 16, 17, 18, 19, 20, 21] rfl (subM_all Z h q S) (g_fn (ws1 := wM Z h q (nob S 1)) (st1 := [.int (-1)]) (putM_all Z h q S (nob S 1)) rfl ?_)
    exact r_iret hX hQ dM_errands_22 keysM (by rw [show mf_errands S (dst o t c nL) x y = ((-1), nob S 1) from by simp [mf_errands, c_4]]; exact MIq_mk (Scr.rf))
  · refine g_iload_n hX dM_errands_7 2 rfl ?_
    refine g_iconst (v := 0) hX dM_errands_8 (by decide) ?_
    refine g_bipush (v := 127) hX dM_errands_9 (by decide) ?_
    refine g_callS hX (con_M_within l Z y 0 127) msM_within q_762 rfl (by decide) rfl (Nat.le_of_ble_eq_true rfl) dM_errands_11 [] rfl (rfl) (g_fn (ws1 := wM Z h q S) (st1 := [.int (wthS y 0 127)]) (rfl) rfl ?_)
    refine g_if_ne hX 23 dM_errands_14 (by decide) (fun c_14 => ?_) (fun c_14 => ?_)
    · obtain ⟨f0, hf07, rfl⟩ := isPlace_of c_4
      obtain ⟨pl, hpl, rfl⟩ := wpl_of c_14
      refine g_iconst (v := 0) hX dM_errands_23 (by decide) ?_
      refine g_istore_n (lv1 := [(0, .ref h), (1, .int (nI f0)), (2, .int (nI pl)), (3, .int 0)]) hX dM_errands_24 (by decide) [1, 2, 3, 0] rfl ?_
      have hL_25 : ∀ i0, i0 ≤ 896 → ∀ (V9 : St), Ei V9 i0 ∧ (∀ k, k ≠ 20 → V9 k = S k) → G X Z (wM Z h q V9) 25 [(0, .ref h), (1, .int (nI f0)), (2, .int (nI pl)), (3, .int (nI i0))] [] := by
        refine loopUp _ 896 ?_ (fun i0 hi_i0 ih_i0 => ?_)
        · intro V9 hq_i0
          refine g_iload_n hX dM_errands_25 3 rfl ?_
          refine g_sipush (v := 896) hX dM_errands_26 (by decide) ?_
          refine g_icmp_ge hX 47 dM_errands_29 (by decide) (fun c_29 => ?_) (fun c_29 => absurd (nI_le (a := 896) (b := 896) (Nat.le_refl _) (by omega)) c_29)
          refine g_aload_n hX dM_errands_47 0 rfl ?_
          refine g_get hX 0 rfl rfl 27 (by decide) uu_M q_611 rfl rfl dM_errands_48 ?_
          refine g_bipush (v := 7) hX dM_errands_51 (by decide) ?_
          refine g_iconst (v := 1) hX dM_errands_53 (by decide) ?_
          refine g_iload_n hX dM_errands_54 1 rfl ?_
          refine g_ishl (z := (nI (2 ^ f0))) hX dM_errands_55 (shl7 f0 hf07) ?_
          refine g_imul (z := (nI (2 ^ f0 * 7))) hX dM_errands_56 ((pk_mul 7 (2 ^ f0)).trans (by rw [Nat.mul_comm])) ?_
          refine g_iload_n hX dM_errands_57 1 rfl ?_
          refine g_iadd (z := (nI ((2 ^ f0 * 7) + f0))) hX dM_errands_58 (nI_add (2 ^ f0 * 7) f0) ?_
          refine g_iconst (v := 0) hX dM_errands_59 (by decide) ?_
          refine g_ast (ws1 := wM Z h q (sw V9 20 (2 ^ f0 * 7 + f0) 0)) hX 20 rfl (2 ^ f0 * 7 + f0) (by have := pow7 f0 hf07; omega) (by decide) (rfl) dM_errands_60 (setM_S_20 Z h q V9 (2 ^ f0 * 7 + f0) 0) ?_
          refine g_sipush (v := 10000) hX dM_errands_61 (by decide) ?_
          refine g_istore_n (lv1 := [(0, .ref h), (1, .int (nI f0)), (2, .int (nI pl)), (3, .int 10000)]) hX dM_errands_64 (by decide) [1, 2, 3, 0] rfl ?_
          refine g_iconst (v := 0) hX dM_errands_65 (by decide) ?_
          refine g_istore (lv1 := [(0, .ref h), (1, .int (nI f0)), (2, .int (nI pl)), (3, .int 10000), (4, .int 0)]) hX dM_errands_66 (by decide) [1, 2, 3, 4, 0] rfl ?_
          have hL_68 : ∀ b0, b0 ≤ 128 → ∀ (V0 : St) (e0 : Nat), Er S V0 (erB (capD (dst o t c nL)) 127 (E0m f0) b0) ∧ e0 = bsB (dst o t c nL) f0 pl b0 → G X Z (wM Z h q V0) 68 [(0, .ref h), (1, .int (nI f0)), (2, .int (nI pl)), (3, .int (nI e0)), (4, .int (nI b0))] [] := by
            refine loopUp _ 128 ?_ (fun b0 hi_b0 ih_b0 => ?_)
            · intro V0 e0 hq_b0
              refine g_iload hX dM_errands_68 4 rfl ?_
              refine g_sipush (v := 128) hX dM_errands_70 (by decide) ?_
              refine g_icmp_ge hX 214 dM_errands_73 (by decide) (fun c_73 => ?_) (fun c_73 => absurd (nI_le (a := 128) (b := 128) (Nat.le_refl _) (by omega)) c_73)
              refine g_iload_n hX dM_errands_214 3 rfl ?_
              refine g_sipush (v := 10000) hX dM_errands_215 (by decide) ?_
              refine g_icmp_ge hX 225 dM_errands_218 (by decide) (fun c_218 => ?_) (fun c_218 => ?_)
              · refine g_bipush (v := (-9)) hX dM_errands_225 (by decide) ?_
                exact r_iret hX hQ dM_errands_227 keysM (by rw [show mf_errands S (dst o t c nL) (nI f0) (nI pl) = ((-9), S) from by rw [mf_errands, if_neg c_4, if_neg c_14, show cl (nI f0) = f0 from nI_clamp (by omega), show cl (nI pl) = pl from nI_clamp (by omega), ← hq_b0.2, wyh (by rw [hq_b0.2]; exact bsB_le _ _ _ _) c_218]]; exact MIq_mk hq_b0.1.scr)
              · refine g_iload_n hX dM_errands_221 3 rfl ?_
                refine g_goto hX 227 dM_errands_222 (by decide) ?_
                exact r_iret hX hQ dM_errands_227 keysM (by rw [show mf_errands S (dst o t c nL) (nI f0) (nI pl) = ((nI e0), S) from by rw [mf_errands, if_neg c_4, if_neg c_14, show cl (nI f0) = f0 from nI_clamp (by omega), show cl (nI pl) = pl from nI_clamp (by omega), ← hq_b0.2, wyl (by rw [hq_b0.2]; exact bsB_le _ _ _ _) c_218]]; exact MIq_mk hq_b0.1.scr)
            · intro V0 e0 hq_b0
              refine g_iload hX dM_errands_68 4 rfl ?_
              refine g_sipush (v := 128) hX dM_errands_70 (by decide) ?_
              refine g_icmp_ge hX 214 dM_errands_73 (by decide) (fun c_73 => absurd c_73 (nI_ge (a := b0) (b := 128) hi_b0 (by omega))) (fun c_73 => ?_)
              refine g_iconst (v := 0) hX dM_errands_76 (by decide) ?_
              refine g_istore (lv1 := [(0, .ref h), (1, .int (nI f0)), (2, .int (nI pl)), (3, .int (nI e0)), (4, .int (nI b0)), (5, .int 0)]) hX dM_errands_77 (by decide) [1, 2, 3, 4, 5, 0] rfl ?_
              have hL_79 : ∀ p0, p0 ≤ 7 → ∀ (V1 : St) (e1 : Nat), Er S V1 (erM (dst o t c nL) f0 b0 p0) ∧ e1 = bsA (dst o t c nL) f0 pl b0 (bsB (dst o t c nL) f0 pl b0) p0 → G X Z (wM Z h q V1) 79 [(0, .ref h), (1, .int (nI f0)), (2, .int (nI pl)), (3, .int (nI e1)), (4, .int (nI b0)), (5, .int (nI p0))] [] := by
                refine loopUp _ 7 ?_ (fun p0 hi_p0 ih_p0 => ?_)
                · intro V1 e1 hq_p0
                  refine g_iload hX dM_errands_79 5 rfl ?_
                  refine g_bipush (v := 7) hX dM_errands_81 (by decide) ?_
                  refine g_icmp_ge hX 208 dM_errands_83 (by decide) (fun c_83 => ?_) (fun c_83 => absurd (nI_le (a := 7) (b := 7) (Nat.le_refl _) (by omega)) c_83)
                  refine g_iinc (v := (nI (b0 + 1))) (lv1 := [(0, .ref h), (1, .int (nI f0)), (2, .int (nI pl)), (3, .int (nI e1)), (4, .int (nI (b0 + 1))), (5, .int (nI 7))]) hX dM_errands_208 4 rfl (inc_nat _) (by decide) [1, 2, 3, 4, 0, 5] rfl ?_
                  refine g_goto hX 68 dM_errands_211 (by decide) ?_
                  refine g_lv (lv1 := [(0, .ref h), (1, .int (nI f0)), (2, .int (nI pl)), (3, .int (nI e1)), (4, .int (nI (b0 + 1)))]) [0, 1, 2, 3, 4] rfl ?_
                  exact ih_b0 V1 e1 (hq_p0)
                · intro V1 e1 hq_p0
                  refine g_iload hX dM_errands_79 5 rfl ?_
                  refine g_bipush (v := 7) hX dM_errands_81 (by decide) ?_
                  refine g_icmp_ge hX 208 dM_errands_83 (by decide) (fun c_83 => absurd c_83 (nI_ge (a := p0) (b := 7) hi_p0 (by omega))) (fun c_83 => ?_)
                  refine g_aload_n hX dM_errands_86 0 rfl ?_
                  refine g_get hX 0 rfl rfl 27 (by decide) uu_M q_611 rfl rfl dM_errands_87 ?_
                  refine g_bipush (v := 7) hX dM_errands_90 (by decide) ?_
                  refine g_iload hX dM_errands_92 4 rfl ?_
                  refine g_imul (z := (nI (b0 * 7))) hX dM_errands_94 ((pk_mul 7 b0).trans (by rw [Nat.mul_comm])) ?_
                  refine g_iload hX dM_errands_95 5 rfl ?_
                  refine g_iadd (z := (nI ((b0 * 7) + p0))) hX dM_errands_97 (nI_add (b0 * 7) p0) ?_
                  refine g_ald (v := (nI ((erM (dst o t c nL) f0 b0 p0) (b0 * 7 + p0)))) hX 20 rfl ((b0 * 7) + p0) (by omega) (by decide) (rfl) (hq_p0.1.1 _ (by omega)) dM_errands_98 ?_
                  have hso := erM_le (dst o t c nL) f0 b0 p0 (b0 * 7 + p0)
                  have he1 : e1 ≤ 10000 := by rw [hq_p0.2]; exact Nat.le_trans (bsA_le _) (bsB_le _ _ _ _)
                  refine g_istore (lv1 := [(0, .ref h), (1, .int (nI f0)), (2, .int (nI pl)), (3, .int (nI e1)), (4, .int (nI b0)), (5, .int (nI p0)), (6, .int (nI ((erM (dst o t c nL) f0 b0 p0) (b0 * 7 + p0))))]) hX dM_errands_99 (by decide) [1, 2, 3, 4, 5, 6, 0] rfl ?_
                  refine g_iload hX dM_errands_101 6 rfl ?_
                  refine g_sipush (v := 10000) hX dM_errands_103 (by decide) ?_
                  refine g_icmp_lt hX 112 dM_errands_106 (by decide) (fun c_106 => ?_) (fun c_106 => ?_)
                  · refine g_iload_n hX dM_errands_112 2 rfl ?_
                    refine g_iload hX dM_errands_113 4 rfl ?_
                    refine g_iconst (v := (-1)) hX dM_errands_115 (by decide) ?_
                    refine g_ixor (z := ((nI b0) ^^^ (-1))) hX dM_errands_116 (rfl) ?_
                    refine g_iand (z := ((nI pl) &&& ((nI b0) ^^^ (-1)))) hX dM_errands_117 (rfl) ?_
                    refine g_if_ne hX 128 dM_errands_118 (by decide) (fun c_118 => ?_) (fun c_118 => ?_)
                    · refine g_aload_n hX dM_errands_128 0 rfl ?_
                      refine g_iload hX dM_errands_129 5 rfl ?_
                      refine g_callV hX (con_M_walk l Z h q V1 nL (by rw [hq_p0.1.2 12 (by decide) (by decide)]; exact hL) hL8 o t c (hLk.cong (hq_p0.1.2 2 (by decide) (by decide)) (hq_p0.1.2 3 (by decide) (by decide)) (hq_p0.1.2 5 (by decide) (by decide))) hc1 p0 (by omega)) mvM_walk q_855 rfl (by decide) 0 rfl rfl rfl (Nat.le_of_ble_eq_true rfl) dM_errands_131 [0, 1, 2, 3, 4, 5, 6, 7, 8, 9, 10, 11, 12, 13, 14, 15, 16, 17, 18, 19, 20, 21] rfl (subM_all Z h q V1) (fun v w hp => ?_)
                      obtain ⟨rfl, F0, hF_F0, rfl⟩ := hp
                      refine g_eq (ws1 := wM Z h q (sr V1 19 F0)) (st1 := []) (putM_all Z h q V1 _) rfl rfl ?_
                      refine g_iconst (v := 0) hX dM_errands_134 (by decide) ?_
                      refine g_istore (lv1 := [(0, .ref h), (1, .int (nI f0)), (2, .int (nI pl)), (3, .int (nI e1)), (4, .int (nI b0)), (5, .int (nI p0)), (6, .int (nI ((erM (dst o t c nL) f0 b0 p0) (b0 * 7 + p0)))), (7, .int 0)]) hX dM_errands_135 (by decide) [1, 2, 3, 4, 5, 6, 7, 0] rfl ?_
                      have hL_137 : ∀ q0, q0 ≤ 7 → ∀ (V2 : St), Er S V2 (gof (capD (dst o t c nL)) (erM (dst o t c nL) f0 b0 p0) b0 p0 127 q0) ∧ (∀ p, p < 7 → V2 19 p = nI (capD (dst o t c nL) p0 p)) → G X Z (wM Z h q V2) 137 [(0, .ref h), (1, .int (nI f0)), (2, .int (nI pl)), (3, .int (nI e1)), (4, .int (nI b0)), (5, .int (nI p0)), (6, .int (nI ((erM (dst o t c nL) f0 b0 p0) (b0 * 7 + p0)))), (7, .int (nI q0))] [] := by
                        refine loopUp _ 7 ?_ (fun q0 hi_q0 ih_q0 => ?_)
                        · intro V2 hq_q0
                          refine g_iload hX dM_errands_137 7 rfl ?_
                          refine g_bipush (v := 7) hX dM_errands_139 (by decide) ?_
                          refine g_icmp_ge hX 202 dM_errands_141 (by decide) (fun c_141 => ?_) (fun c_141 => absurd (nI_le (a := 7) (b := 7) (Nat.le_refl _) (by omega)) c_141)
                          refine g_iinc (v := (nI (p0 + 1))) (lv1 := [(0, .ref h), (1, .int (nI f0)), (2, .int (nI pl)), (3, .int (nI e1)), (4, .int (nI b0)), (5, .int (nI (p0 + 1))), (6, .int (nI ((erM (dst o t c nL) f0 b0 p0) (b0 * 7 + p0)))), (7, .int (nI 7))]) hX dM_errands_202 5 rfl (inc_nat _) (by decide) [1, 2, 3, 4, 5, 0, 6, 7] rfl ?_
                          refine g_goto hX 79 dM_errands_205 (by decide) ?_
                          refine g_lv (lv1 := [(0, .ref h), (1, .int (nI f0)), (2, .int (nI pl)), (3, .int (nI e1)), (4, .int (nI b0)), (5, .int (nI (p0 + 1)))]) [0, 1, 2, 3, 4, 5] rfl ?_
                          exact ih_p0 V2 e1 (⟨hq_q0.1, bs_no hq_p0.2 hpl hi_b0 c_118⟩)
                        · intro V2 hq_q0
                          refine g_iload hX dM_errands_137 7 rfl ?_
                          refine g_bipush (v := 7) hX dM_errands_139 (by decide) ?_
                          refine g_icmp_ge hX 202 dM_errands_141 (by decide) (fun c_141 => absurd c_141 (nI_ge (a := q0) (b := 7) hi_q0 (by omega))) (fun c_141 => ?_)
                          refine g_bipush (v := 7) hX dM_errands_144 (by decide) ?_
                          refine g_iload hX dM_errands_146 4 rfl ?_
                          refine g_iconst (v := 1) hX dM_errands_148 (by decide) ?_
                          refine g_iload hX dM_errands_149 7 rfl ?_
                          refine g_ishl (z := (nI (2 ^ q0))) hX dM_errands_151 (shl7 q0 hi_q0) ?_
                          refine g_ior (z := (nI (b0 ||| 2 ^ q0))) hX dM_errands_152 (or_nI b0 (2 ^ q0)) ?_
                          refine g_imul (z := (nI ((b0 ||| 2 ^ q0) * 7))) hX dM_errands_153 ((pk_mul 7 (b0 ||| 2 ^ q0)).trans (by rw [Nat.mul_comm])) ?_
                          refine g_iload hX dM_errands_154 7 rfl ?_
                          refine g_iadd (z := (nI (((b0 ||| 2 ^ q0) * 7) + q0))) hX dM_errands_156 (nI_add ((b0 ||| 2 ^ q0) * 7) q0) ?_
                          refine g_istore (lv1 := [(0, .ref h), (1, .int (nI f0)), (2, .int (nI pl)), (3, .int (nI e1)), (4, .int (nI b0)), (5, .int (nI p0)), (6, .int (nI ((erM (dst o t c nL) f0 b0 p0) (b0 * 7 + p0)))), (7, .int (nI q0)), (8, .int (nI (((b0 ||| 2 ^ q0) * 7) + q0)))]) hX dM_errands_157 (by decide) [1, 2, 3, 4, 5, 6, 7, 8, 0] rfl ?_
                          refine g_iload hX dM_errands_159 4 rfl ?_
                          refine g_iload hX dM_errands_161 7 rfl ?_
                          refine g_callS hX (con_M_has l Z (nI b0) (nI q0)) msM_has q_875 rfl (by decide) rfl (Nat.le_of_ble_eq_true rfl) dM_errands_163 [] rfl (rfl) (g_fn (ws1 := wM Z h q V2) (st1 := [.int (hasS (nI b0) (nI q0))]) (rfl) rfl ?_)
                          refine g_if_ne hX 196 dM_errands_166 (by decide) (fun c_166 => ?_) (fun c_166 => ?_)
                          · refine g_iinc (v := (nI (q0 + 1))) (lv1 := [(0, .ref h), (1, .int (nI f0)), (2, .int (nI pl)), (3, .int (nI e1)), (4, .int (nI b0)), (5, .int (nI p0)), (6, .int (nI ((erM (dst o t c nL) f0 b0 p0) (b0 * 7 + p0)))), (7, .int (nI (q0 + 1))), (8, .int (nI (((b0 ||| 2 ^ q0) * 7) + q0)))]) hX dM_errands_196 7 rfl (inc_nat _) (by decide) [1, 2, 3, 4, 5, 6, 7, 0, 8] rfl ?_
                            refine g_goto hX 137 dM_errands_199 (by decide) ?_
                            refine g_lv (lv1 := [(0, .ref h), (1, .int (nI f0)), (2, .int (nI pl)), (3, .int (nI e1)), (4, .int (nI b0)), (5, .int (nI p0)), (6, .int (nI ((erM (dst o t c nL) f0 b0 p0) (b0 * 7 + p0)))), (7, .int (nI (q0 + 1)))]) [0, 1, 2, 3, 4, 5, 6, 7] rfl ?_
                            exact ih_q0 V2 (⟨by rw [gfm_has hi_b0 hi_q0 c_166]; exact hq_q0.1, hq_q0.2⟩)
                          · refine g_aload_n hX dM_errands_169 0 rfl ?_
                            refine g_get hX 0 rfl rfl 27 (by decide) uu_M q_611 rfl rfl dM_errands_170 ?_
                            refine g_iload hX dM_errands_173 8 rfl ?_
                            refine g_aload_n hX dM_errands_175 0 rfl ?_
                            refine g_get hX 0 rfl rfl 27 (by decide) uu_M q_611 rfl rfl dM_errands_176 ?_
                            refine g_iload hX dM_errands_179 8 rfl ?_
                            refine g_ald (v := (nI (gof (capD (dst o t c nL)) (erM (dst o t c nL) f0 b0 p0) b0 p0 127 q0 ((b0 ||| 2 ^ q0) * 7 + q0)))) hX 20 rfl ((b0 ||| 2 ^ q0) * 7 + q0) (by have := or128 hi_b0 (pow7 q0 hi_q0); omega) (by decide) (rfl) (hq_q0.1.1 _ (by have := or128 hi_b0 (pow7 q0 hi_q0); omega)) dM_errands_181 ?_
                            refine g_iload hX dM_errands_182 6 rfl ?_
                            refine g_aload_n hX dM_errands_184 0 rfl ?_
                            refine g_get hX 0 rfl rfl 26 (by decide) uu_M q_610 rfl rfl dM_errands_185 ?_
                            refine g_iload hX dM_errands_188 7 rfl ?_
                            refine g_ald (v := (nI (capD (dst o t c nL) p0 q0))) hX 19 rfl q0 (by omega) (by decide) (rfl) (hq_q0.2 q0 hi_q0) dM_errands_190 ?_
                            refine g_iadd (z := (nI (((erM (dst o t c nL) f0 b0 p0) (b0 * 7 + p0)) + (capD (dst o t c nL) p0 q0)))) hX dM_errands_191 (nI_add ((erM (dst o t c nL) f0 b0 p0) (b0 * 7 + p0)) (capD (dst o t c nL) p0 q0)) ?_
                            refine g_mmin (z := (nI (min (gof (capD (dst o t c nL)) (erM (dst o t c nL) f0 b0 p0) b0 p0 127 q0 ((b0 ||| 2 ^ q0) * 7 + q0)) ((erM (dst o t c nL) f0 b0 p0) (b0 * 7 + p0) + capD (dst o t c nL) p0 q0)))) hX q_704 q_298 q_12 q_299 dM_errands_192 (by decide) (Nat.le_of_ble_eq_true rfl) (mn_nI (Nat.lt_of_le_of_lt (Nat.le_trans (gof_le _ _) (erM_le _ _ _ _ _)) (by decide)) (by have : capD (dst o t c nL) p0 q0 ≤ 10000 := Nat.min_le_right _ _; omega)) ?_
                            refine g_ast (ws1 := wM Z h q (sw V2 20 ((b0 ||| 2 ^ q0) * 7 + q0) (nI (min (gof (capD (dst o t c nL)) (erM (dst o t c nL) f0 b0 p0) b0 p0 127 q0 ((b0 ||| 2 ^ q0) * 7 + q0)) ((erM (dst o t c nL) f0 b0 p0) (b0 * 7 + p0) + capD (dst o t c nL) p0 q0))))) hX 20 rfl ((b0 ||| 2 ^ q0) * 7 + q0) (by have := or128 hi_b0 (pow7 q0 hi_q0); omega) (by decide) (rfl) dM_errands_195 (setM_S_20 Z h q V2 ((b0 ||| 2 ^ q0) * 7 + q0) (nI (min (gof (capD (dst o t c nL)) (erM (dst o t c nL) f0 b0 p0) b0 p0 127 q0 ((b0 ||| 2 ^ q0) * 7 + q0)) ((erM (dst o t c nL) f0 b0 p0) (b0 * 7 + p0) + capD (dst o t c nL) p0 q0)))) ?_
                            refine g_iinc (v := (nI (q0 + 1))) (lv1 := [(0, .ref h), (1, .int (nI f0)), (2, .int (nI pl)), (3, .int (nI e1)), (4, .int (nI b0)), (5, .int (nI p0)), (6, .int (nI ((erM (dst o t c nL) f0 b0 p0) (b0 * 7 + p0)))), (7, .int (nI (q0 + 1))), (8, .int (nI (((b0 ||| 2 ^ q0) * 7) + q0)))]) hX dM_errands_196 7 rfl (inc_nat _) (by decide) [1, 2, 3, 4, 5, 6, 7, 0, 8] rfl ?_
                            refine g_goto hX 137 dM_errands_199 (by decide) ?_
                            refine g_lv (lv1 := [(0, .ref h), (1, .int (nI f0)), (2, .int (nI pl)), (3, .int (nI e1)), (4, .int (nI b0)), (5, .int (nI p0)), (6, .int (nI ((erM (dst o t c nL) f0 b0 p0) (b0 * 7 + p0)))), (7, .int (nI (q0 + 1)))]) [0, 1, 2, 3, 4, 5, 6, 7] rfl ?_
                            exact ih_q0 (sw V2 20 ((b0 ||| 2 ^ q0) * 7 + q0) (nI (min (gof (capD (dst o t c nL)) (erM (dst o t c nL) f0 b0 p0) b0 p0 127 q0 ((b0 ||| 2 ^ q0) * 7 + q0)) ((erM (dst o t c nL) f0 b0 p0) (b0 * 7 + p0) + capD (dst o t c nL) p0 q0)))) (⟨by rw [gfm_go hi_b0 hi_q0 c_166]; exact hq_q0.1.up _ _, fun p hp => by rw [sw_ne _ _ _ (by decide)]; exact hq_q0.2 p hp⟩)
                      exact hL_137 0 (Nat.zero_le _) (sr V1 19 F0) (⟨hq_p0.1.row F0, fun p hp => (congrFun (sr_eq _ _ _) p).trans (hF_F0 p hp)⟩)
                    · refine g_iload_n hX dM_errands_121 3 rfl ?_
                      refine g_iload hX dM_errands_122 6 rfl ?_
                      refine g_mmin (z := (nI (min e1 ((erM (dst o t c nL) f0 b0 p0) (b0 * 7 + p0))))) hX q_704 q_298 q_12 q_299 dM_errands_124 (by decide) (Nat.le_of_ble_eq_true rfl) (mn_nI (by omega) (by omega)) ?_
                      refine g_istore_n (lv1 := [(0, .ref h), (1, .int (nI f0)), (2, .int (nI pl)), (3, .int (nI (min e1 ((erM (dst o t c nL) f0 b0 p0) (b0 * 7 + p0))))), (4, .int (nI b0)), (5, .int (nI p0)), (6, .int (nI ((erM (dst o t c nL) f0 b0 p0) (b0 * 7 + p0))))]) hX dM_errands_127 (by decide) [1, 2, 3, 0, 4, 5, 6] rfl ?_
                      refine g_aload_n hX dM_errands_128 0 rfl ?_
                      refine g_iload hX dM_errands_129 5 rfl ?_
                      refine g_callV hX (con_M_walk l Z h q V1 nL (by rw [hq_p0.1.2 12 (by decide) (by decide)]; exact hL) hL8 o t c (hLk.cong (hq_p0.1.2 2 (by decide) (by decide)) (hq_p0.1.2 3 (by decide) (by decide)) (hq_p0.1.2 5 (by decide) (by decide))) hc1 p0 (by omega)) mvM_walk q_855 rfl (by decide) 0 rfl rfl rfl (Nat.le_of_ble_eq_true rfl) dM_errands_131 [0, 1, 2, 3, 4, 5, 6, 7, 8, 9, 10, 11, 12, 13, 14, 15, 16, 17, 18, 19, 20, 21] rfl (subM_all Z h q V1) (fun v w hp => ?_)
                      obtain ⟨rfl, F0, hF_F0, rfl⟩ := hp
                      refine g_eq (ws1 := wM Z h q (sr V1 19 F0)) (st1 := []) (putM_all Z h q V1 _) rfl rfl ?_
                      refine g_iconst (v := 0) hX dM_errands_134 (by decide) ?_
                      refine g_istore (lv1 := [(0, .ref h), (1, .int (nI f0)), (2, .int (nI pl)), (3, .int (nI (min e1 ((erM (dst o t c nL) f0 b0 p0) (b0 * 7 + p0))))), (4, .int (nI b0)), (5, .int (nI p0)), (6, .int (nI ((erM (dst o t c nL) f0 b0 p0) (b0 * 7 + p0)))), (7, .int 0)]) hX dM_errands_135 (by decide) [1, 2, 3, 4, 5, 6, 7, 0] rfl ?_
                      have hL_137 : ∀ q0, q0 ≤ 7 → ∀ (V2 : St), Er S V2 (gof (capD (dst o t c nL)) (erM (dst o t c nL) f0 b0 p0) b0 p0 127 q0) ∧ (∀ p, p < 7 → V2 19 p = nI (capD (dst o t c nL) p0 p)) → G X Z (wM Z h q V2) 137 [(0, .ref h), (1, .int (nI f0)), (2, .int (nI pl)), (3, .int (nI (min e1 ((erM (dst o t c nL) f0 b0 p0) (b0 * 7 + p0))))), (4, .int (nI b0)), (5, .int (nI p0)), (6, .int (nI ((erM (dst o t c nL) f0 b0 p0) (b0 * 7 + p0)))), (7, .int (nI q0))] [] := by
                        refine loopUp _ 7 ?_ (fun q0 hi_q0 ih_q0 => ?_)
                        · intro V2 hq_q0
                          refine g_iload hX dM_errands_137 7 rfl ?_
                          refine g_bipush (v := 7) hX dM_errands_139 (by decide) ?_
                          refine g_icmp_ge hX 202 dM_errands_141 (by decide) (fun c_141 => ?_) (fun c_141 => absurd (nI_le (a := 7) (b := 7) (Nat.le_refl _) (by omega)) c_141)
                          refine g_iinc (v := (nI (p0 + 1))) (lv1 := [(0, .ref h), (1, .int (nI f0)), (2, .int (nI pl)), (3, .int (nI (min e1 ((erM (dst o t c nL) f0 b0 p0) (b0 * 7 + p0))))), (4, .int (nI b0)), (5, .int (nI (p0 + 1))), (6, .int (nI ((erM (dst o t c nL) f0 b0 p0) (b0 * 7 + p0)))), (7, .int (nI 7))]) hX dM_errands_202 5 rfl (inc_nat _) (by decide) [1, 2, 3, 4, 5, 0, 6, 7] rfl ?_
                          refine g_goto hX 79 dM_errands_205 (by decide) ?_
                          refine g_lv (lv1 := [(0, .ref h), (1, .int (nI f0)), (2, .int (nI pl)), (3, .int (nI (min e1 ((erM (dst o t c nL) f0 b0 p0) (b0 * 7 + p0))))), (4, .int (nI b0)), (5, .int (nI (p0 + 1)))]) [0, 1, 2, 3, 4, 5] rfl ?_
                          exact ih_p0 V2 (min e1 ((erM (dst o t c nL) f0 b0 p0) (b0 * 7 + p0))) (⟨hq_q0.1, bs_yes hq_p0.2 hpl hi_b0 c_118⟩)
                        · intro V2 hq_q0
                          refine g_iload hX dM_errands_137 7 rfl ?_
                          refine g_bipush (v := 7) hX dM_errands_139 (by decide) ?_
                          refine g_icmp_ge hX 202 dM_errands_141 (by decide) (fun c_141 => absurd c_141 (nI_ge (a := q0) (b := 7) hi_q0 (by omega))) (fun c_141 => ?_)
                          refine g_bipush (v := 7) hX dM_errands_144 (by decide) ?_
                          refine g_iload hX dM_errands_146 4 rfl ?_
                          refine g_iconst (v := 1) hX dM_errands_148 (by decide) ?_
                          refine g_iload hX dM_errands_149 7 rfl ?_
                          refine g_ishl (z := (nI (2 ^ q0))) hX dM_errands_151 (shl7 q0 hi_q0) ?_
                          refine g_ior (z := (nI (b0 ||| 2 ^ q0))) hX dM_errands_152 (or_nI b0 (2 ^ q0)) ?_
                          refine g_imul (z := (nI ((b0 ||| 2 ^ q0) * 7))) hX dM_errands_153 ((pk_mul 7 (b0 ||| 2 ^ q0)).trans (by rw [Nat.mul_comm])) ?_
                          refine g_iload hX dM_errands_154 7 rfl ?_
                          refine g_iadd (z := (nI (((b0 ||| 2 ^ q0) * 7) + q0))) hX dM_errands_156 (nI_add ((b0 ||| 2 ^ q0) * 7) q0) ?_
                          refine g_istore (lv1 := [(0, .ref h), (1, .int (nI f0)), (2, .int (nI pl)), (3, .int (nI (min e1 ((erM (dst o t c nL) f0 b0 p0) (b0 * 7 + p0))))), (4, .int (nI b0)), (5, .int (nI p0)), (6, .int (nI ((erM (dst o t c nL) f0 b0 p0) (b0 * 7 + p0)))), (7, .int (nI q0)), (8, .int (nI (((b0 ||| 2 ^ q0) * 7) + q0)))]) hX dM_errands_157 (by decide) [1, 2, 3, 4, 5, 6, 7, 8, 0] rfl ?_
                          refine g_iload hX dM_errands_159 4 rfl ?_
                          refine g_iload hX dM_errands_161 7 rfl ?_
                          refine g_callS hX (con_M_has l Z (nI b0) (nI q0)) msM_has q_875 rfl (by decide) rfl (Nat.le_of_ble_eq_true rfl) dM_errands_163 [] rfl (rfl) (g_fn (ws1 := wM Z h q V2) (st1 := [.int (hasS (nI b0) (nI q0))]) (rfl) rfl ?_)
                          refine g_if_ne hX 196 dM_errands_166 (by decide) (fun c_166 => ?_) (fun c_166 => ?_)
                          · refine g_iinc (v := (nI (q0 + 1))) (lv1 := [(0, .ref h), (1, .int (nI f0)), (2, .int (nI pl)), (3, .int (nI (min e1 ((erM (dst o t c nL) f0 b0 p0) (b0 * 7 + p0))))), (4, .int (nI b0)), (5, .int (nI p0)), (6, .int (nI ((erM (dst o t c nL) f0 b0 p0) (b0 * 7 + p0)))), (7, .int (nI (q0 + 1))), (8, .int (nI (((b0 ||| 2 ^ q0) * 7) + q0)))]) hX dM_errands_196 7 rfl (inc_nat _) (by decide) [1, 2, 3, 4, 5, 6, 7, 0, 8] rfl ?_
                            refine g_goto hX 137 dM_errands_199 (by decide) ?_
                            refine g_lv (lv1 := [(0, .ref h), (1, .int (nI f0)), (2, .int (nI pl)), (3, .int (nI (min e1 ((erM (dst o t c nL) f0 b0 p0) (b0 * 7 + p0))))), (4, .int (nI b0)), (5, .int (nI p0)), (6, .int (nI ((erM (dst o t c nL) f0 b0 p0) (b0 * 7 + p0)))), (7, .int (nI (q0 + 1)))]) [0, 1, 2, 3, 4, 5, 6, 7] rfl ?_
                            exact ih_q0 V2 (⟨by rw [gfm_has hi_b0 hi_q0 c_166]; exact hq_q0.1, hq_q0.2⟩)
                          · refine g_aload_n hX dM_errands_169 0 rfl ?_
                            refine g_get hX 0 rfl rfl 27 (by decide) uu_M q_611 rfl rfl dM_errands_170 ?_
                            refine g_iload hX dM_errands_173 8 rfl ?_
                            refine g_aload_n hX dM_errands_175 0 rfl ?_
                            refine g_get hX 0 rfl rfl 27 (by decide) uu_M q_611 rfl rfl dM_errands_176 ?_
                            refine g_iload hX dM_errands_179 8 rfl ?_
                            refine g_ald (v := (nI (gof (capD (dst o t c nL)) (erM (dst o t c nL) f0 b0 p0) b0 p0 127 q0 ((b0 ||| 2 ^ q0) * 7 + q0)))) hX 20 rfl ((b0 ||| 2 ^ q0) * 7 + q0) (by have := or128 hi_b0 (pow7 q0 hi_q0); omega) (by decide) (rfl) (hq_q0.1.1 _ (by have := or128 hi_b0 (pow7 q0 hi_q0); omega)) dM_errands_181 ?_
                            refine g_iload hX dM_errands_182 6 rfl ?_
                            refine g_aload_n hX dM_errands_184 0 rfl ?_
                            refine g_get hX 0 rfl rfl 26 (by decide) uu_M q_610 rfl rfl dM_errands_185 ?_
                            refine g_iload hX dM_errands_188 7 rfl ?_
                            refine g_ald (v := (nI (capD (dst o t c nL) p0 q0))) hX 19 rfl q0 (by omega) (by decide) (rfl) (hq_q0.2 q0 hi_q0) dM_errands_190 ?_
                            refine g_iadd (z := (nI (((erM (dst o t c nL) f0 b0 p0) (b0 * 7 + p0)) + (capD (dst o t c nL) p0 q0)))) hX dM_errands_191 (nI_add ((erM (dst o t c nL) f0 b0 p0) (b0 * 7 + p0)) (capD (dst o t c nL) p0 q0)) ?_
                            refine g_mmin (z := (nI (min (gof (capD (dst o t c nL)) (erM (dst o t c nL) f0 b0 p0) b0 p0 127 q0 ((b0 ||| 2 ^ q0) * 7 + q0)) ((erM (dst o t c nL) f0 b0 p0) (b0 * 7 + p0) + capD (dst o t c nL) p0 q0)))) hX q_704 q_298 q_12 q_299 dM_errands_192 (by decide) (Nat.le_of_ble_eq_true rfl) (mn_nI (Nat.lt_of_le_of_lt (Nat.le_trans (gof_le _ _) (erM_le _ _ _ _ _)) (by decide)) (by have : capD (dst o t c nL) p0 q0 ≤ 10000 := Nat.min_le_right _ _; omega)) ?_
                            refine g_ast (ws1 := wM Z h q (sw V2 20 ((b0 ||| 2 ^ q0) * 7 + q0) (nI (min (gof (capD (dst o t c nL)) (erM (dst o t c nL) f0 b0 p0) b0 p0 127 q0 ((b0 ||| 2 ^ q0) * 7 + q0)) ((erM (dst o t c nL) f0 b0 p0) (b0 * 7 + p0) + capD (dst o t c nL) p0 q0))))) hX 20 rfl ((b0 ||| 2 ^ q0) * 7 + q0) (by have := or128 hi_b0 (pow7 q0 hi_q0); omega) (by decide) (rfl) dM_errands_195 (setM_S_20 Z h q V2 ((b0 ||| 2 ^ q0) * 7 + q0) (nI (min (gof (capD (dst o t c nL)) (erM (dst o t c nL) f0 b0 p0) b0 p0 127 q0 ((b0 ||| 2 ^ q0) * 7 + q0)) ((erM (dst o t c nL) f0 b0 p0) (b0 * 7 + p0) + capD (dst o t c nL) p0 q0)))) ?_
                            refine g_iinc (v := (nI (q0 + 1))) (lv1 := [(0, .ref h), (1, .int (nI f0)), (2, .int (nI pl)), (3, .int (nI (min e1 ((erM (dst o t c nL) f0 b0 p0) (b0 * 7 + p0))))), (4, .int (nI b0)), (5, .int (nI p0)), (6, .int (nI ((erM (dst o t c nL) f0 b0 p0) (b0 * 7 + p0)))), (7, .int (nI (q0 + 1))), (8, .int (nI (((b0 ||| 2 ^ q0) * 7) + q0)))]) hX dM_errands_196 7 rfl (inc_nat _) (by decide) [1, 2, 3, 4, 5, 6, 7, 0, 8] rfl ?_
                            refine g_goto hX 137 dM_errands_199 (by decide) ?_
                            refine g_lv (lv1 := [(0, .ref h), (1, .int (nI f0)), (2, .int (nI pl)), (3, .int (nI (min e1 ((erM (dst o t c nL) f0 b0 p0) (b0 * 7 + p0))))), (4, .int (nI b0)), (5, .int (nI p0)), (6, .int (nI ((erM (dst o t c nL) f0 b0 p0) (b0 * 7 + p0)))), (7, .int (nI (q0 + 1)))]) [0, 1, 2, 3, 4, 5, 6, 7] rfl ?_
                            exact ih_q0 (sw V2 20 ((b0 ||| 2 ^ q0) * 7 + q0) (nI (min (gof (capD (dst o t c nL)) (erM (dst o t c nL) f0 b0 p0) b0 p0 127 q0 ((b0 ||| 2 ^ q0) * 7 + q0)) ((erM (dst o t c nL) f0 b0 p0) (b0 * 7 + p0) + capD (dst o t c nL) p0 q0)))) (⟨by rw [gfm_go hi_b0 hi_q0 c_166]; exact hq_q0.1.up _ _, fun p hp => by rw [sw_ne _ _ _ (by decide)]; exact hq_q0.2 p hp⟩)
                      exact hL_137 0 (Nat.zero_le _) (sr V1 19 F0) (⟨hq_p0.1.row F0, fun p hp => (congrFun (sr_eq _ _ _) p).trans (hF_F0 p hp)⟩)
                  · refine g_goto hX 202 dM_errands_109 (by decide) ?_
                    refine g_iinc (v := (nI (p0 + 1))) (lv1 := [(0, .ref h), (1, .int (nI f0)), (2, .int (nI pl)), (3, .int (nI e1)), (4, .int (nI b0)), (5, .int (nI (p0 + 1))), (6, .int (nI ((erM (dst o t c nL) f0 b0 p0) (b0 * 7 + p0))))]) hX dM_errands_202 5 rfl (inc_nat _) (by decide) [1, 2, 3, 4, 5, 0, 6] rfl ?_
                    refine g_goto hX 79 dM_errands_205 (by decide) ?_
                    refine g_lv (lv1 := [(0, .ref h), (1, .int (nI f0)), (2, .int (nI pl)), (3, .int (nI e1)), (4, .int (nI b0)), (5, .int (nI (p0 + 1)))]) [0, 1, 2, 3, 4, 5] rfl ?_
                    exact ih_p0 V1 e1 (⟨hq_p0.1.cong (gof_skip (erM_le _ _ _ _) (by have q9 := c_106; rw [show (10000 : Int32) = nI 10000 from rfl, nI_ltI (by omega) (by omega)] at q9; omega) 7), bs_skip hq_p0.2 he1 (by have q9 := c_106; rw [show (10000 : Int32) = nI 10000 from rfl, nI_ltI (by omega) (by omega)] at q9; omega)⟩)
              exact hL_79 0 (Nat.zero_le _) V0 e0 (hq_b0)
          exact hL_68 0 (Nat.zero_le _) (sw V9 20 (2 ^ f0 * 7 + f0) 0) 10000 (⟨err_go f0 hq_i0.1 hq_i0.2, rfl⟩)
        · intro V9 hq_i0
          refine g_iload_n hX dM_errands_25 3 rfl ?_
          refine g_sipush (v := 896) hX dM_errands_26 (by decide) ?_
          refine g_icmp_ge hX 47 dM_errands_29 (by decide) (fun c_29 => absurd c_29 (nI_ge (a := i0) (b := 896) hi_i0 (by omega))) (fun c_29 => ?_)
          refine g_aload_n hX dM_errands_32 0 rfl ?_
          refine g_get hX 0 rfl rfl 27 (by decide) uu_M q_611 rfl rfl dM_errands_33 ?_
          refine g_iload_n hX dM_errands_36 3 rfl ?_
          refine g_sipush (v := 10000) hX dM_errands_37 (by decide) ?_
          refine g_ast (ws1 := wM Z h q (sw V9 20 i0 10000)) hX 20 rfl i0 (by omega) (by decide) (rfl) dM_errands_40 (setM_S_20 Z h q V9 i0 10000) ?_
          refine g_iinc (v := (nI (i0 + 1))) (lv1 := [(0, .ref h), (1, .int (nI f0)), (2, .int (nI pl)), (3, .int (nI (i0 + 1)))]) hX dM_errands_41 3 rfl (inc_nat _) (by decide) [1, 2, 3, 0] rfl ?_
          refine g_goto hX 25 dM_errands_44 (by decide) ?_
          exact ih_i0 (sw V9 20 i0 10000) (⟨hq_i0.1.step, fun k hk => by rw [sw_ne _ _ _ hk]; exact hq_i0.2 k hk⟩)
      exact hL_25 0 (Nat.zero_le _) S (⟨fun k hk => absurd hk (Nat.not_lt_zero _), fun _ _ => rfl⟩)
    · refine g_aload_n hX dM_errands_17 0 rfl ?_
      refine g_iconst (v := (-1)) hX dM_errands_18 (by decide) ?_
      refine g_callV hX (con_M_no l Z h q S (-1) 1 (by decide) (by decide)) mvM_no q_676 rfl (by decide) 0 rfl rfl rfl (Nat.le_of_ble_eq_true rfl) dM_errands_19 [0, 1, 2, 3, 4, 5, 6, 7, 8, 9, 10, 11, 12, 13, 14, 15, 16, 17, 18, 19, 20, 21] rfl (subM_all Z h q S) (g_fn (ws1 := wM Z h q (nob S 1)) (st1 := [.int (-1)]) (putM_all Z h q S (nob S 1)) rfl ?_)
      exact r_iret hX hQ dM_errands_22 keysM (by rw [show mf_errands S (dst o t c nL) x y = ((-1), nob S 1) from by simp [mf_errands, c_4, c_14]]; exact MIq_mk (Scr.rf))
