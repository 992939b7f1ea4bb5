/-! the Ways: errands -/
theorem or_nI (a b : Nat) : nI a ||| nI b = nI (a ||| b) := by
  apply Int32.toBitVec_inj.1
  show BitVec.ofNat 32 a ||| BitVec.ofNat 32 b = BitVec.ofNat 32 (a ||| b)
  apply BitVec.eq_of_getLsbD_eq
  intro i hi
  simp [hi]
theorem and_nI (a b : Nat) : nI a &&& nI b = nI (a &&& b) := by
  apply Int32.toBitVec_inj.1
  show BitVec.ofNat 32 a &&& BitVec.ofNat 32 b = BitVec.ofNat 32 (a &&& b)
  apply BitVec.eq_of_getLsbD_eq
  intro i hi
  simp [hi]
theorem shl7 : ∀ n, n < 7 → (1 : Int32) <<< (nI n &&& 31) = nI (2 ^ n) := by decide
theorem pow7 : ∀ n, n < 7 → 2 ^ n < 128 := by decide
theorem or128 {a b : Nat} (ha : a < 128) (hb : b < 128) : a ||| b < 128 := Nat.or_lt_two_pow (n := 7) ha hb
def upN (E : Nat → Nat) (k v : Nat) : Nat → Nat := fun j => if j = k then v else E j
/-- the errands' table, gone on from a place by the first so many -/
def gof (D : Nat → Nat → Nat) (E : Nat → Nat) (b p all : Nat) : Nat → Nat → Nat
  | 0 => E
  | n + 1 => if b ||| 2 ^ n = b then gof D E b p all n else if (b ||| 2 ^ n) ||| all = all then upN (gof D E b p all n) ((b ||| 2 ^ n) * 7 + n) (min (gof D E b p all n ((b ||| 2 ^ n) * 7 + n)) (E (b * 7 + p) + D p n)) else gof D E b p all n
def Ev (S : St) (E : Nat → Nat) : Prop := ∀ k, k < 896 → S 8 k = nI (E k)
def Ecap (E : Nat → Nat) : Prop := ∀ k, E k ≤ 1000000
theorem gof_le {D : Nat → Nat → Nat} {E : Nat → Nat} {b p all : Nat} : ∀ n k, gof D E b p all n k ≤ E k
  | 0, _ => Nat.le_refl _
  | n + 1, k => by
    have ih := gof_le (D := D) (E := E) (b := b) (p := p) (all := all) n
    rw [gof]
    split
    · exact ih k
    · split
      · unfold upN
        split
        · next h => rw [h]; exact Nat.le_trans (Nat.min_le_left _ _) (ih _)
        · exact ih k
      · exact ih k
theorem gof_cap {D : Nat → Nat → Nat} {E : Nat → Nat} {b p all : Nat} (h : Ecap E) (n : Nat) : Ecap (gof D E b p all n) := fun k => Nat.le_trans (gof_le n k) (h k)
theorem gof_1 {D : Nat → Nat → Nat} {E : Nat → Nat} {b p all n : Nat} (hb : b < 128) (hn : n < 7) (h : nI (b ||| 2 ^ n) = nI b) : gof D E b p all (n + 1) = gof D E b p all n := by
  have := or128 hb (pow7 n hn)
  rw [gof, if_pos ((nI_eq (by omega) (by omega)).mp h)]
theorem gof_2 {D : Nat → Nat → Nat} {E : Nat → Nat} {b p all n : Nat} (hn : n < 7) (h1 : ¬ nI (b ||| 2 ^ n) = nI b) (h : ¬ nI ((b ||| 2 ^ n) ||| all) = nI all) : gof D E b p all (n + 1) = gof D E b p all n := by
  rw [gof, if_neg (fun q => h1 (by rw [q])), if_neg (fun q => h (by rw [q]))]
theorem gof_3 {D : Nat → Nat → Nat} {E : Nat → Nat} {b p all n : Nat} (hb : b < 128) (hn : n < 7) (ha : all < 128) (h1 : ¬ nI (b ||| 2 ^ n) = nI b) (h : nI ((b ||| 2 ^ n) ||| all) = nI all) : gof D E b p all (n + 1) = upN (gof D E b p all n) ((b ||| 2 ^ n) * 7 + n) (min (gof D E b p all n ((b ||| 2 ^ n) * 7 + n)) (E (b * 7 + p) + D p n)) := by
  have := or128 hb (pow7 n hn)
  have := or128 this ha
  rw [gof, if_neg (fun q => h1 (by rw [q])), if_pos ((nI_eq (by omega) (by omega)).mp h)]
theorem Mat_8 {S : St} {D : Nat → Nat → Nat} {k : Nat} {v : Int32} (h : Mat S D) : Mat (sw S 8 k v) D := fun a ha b hb => by rw [sw_ne _ _ _ (by omega)]; exact h a ha b hb
theorem Ev_up {S : St} {E : Nat → Nat} {k v : Nat} (h : Ev S E) : Ev (sw S 8 k (nI v)) (upN E k v) := fun j hj => by
  rw [swv]
  unfold upN
  by_cases e : j = k
  · rw [if_pos ⟨rfl, e⟩, if_pos e]
  · rw [if_neg (fun q => e q.2), if_neg e]
    exact h j hj
theorem gof_st {S : St} {D : Nat → Nat → Nat} {E : Nat → Nat} {b p all n : Nat} (hC : Cap D) (hE : Ecap E) (hp : p < 7) (hb : b < 128) (hn : n < 7) (ha : all < 128) (h1 : ¬ nI (b ||| 2 ^ n) = nI b) (h : nI ((b ||| 2 ^ n) ||| all) = nI all) (hs : Ev S (gof D E b p all n)) : Ev (sw S 8 ((b ||| 2 ^ n) * 7 + n) (mn (nI (gof D E b p all n ((b ||| 2 ^ n) * 7 + n))) (nI (E (b * 7 + p) + D p n)))) (gof D E b p all (n + 1)) := by
  have c1 := gof_cap (D := D) (b := b) (p := p) (all := all) hE n ((b ||| 2 ^ n) * 7 + n)
  have c2 := hE (b * 7 + p)
  have c3 := hC p hp n hn
  rw [gof_3 hb hn ha h1 h, mn_nI (by omega) (by omega)]
  exact Ev_up hs
def gofPost (Z : ZZ) (h : Nat) (q : Nat → Nat) (D : Nat → Nat → Nat) (E : Nat → Nat) : Option Value → va_W → Prop := fun v ws => v = none ∧ ∃ T, Mat T D ∧ Ev T E ∧ ws = wW Z h q T
def erA (D : Nat → Nat → Nat) (all b : Nat) (E : Nat → Nat) : Nat → Nat → Nat
  | 0 => E
  | n + 1 => gof D (erA D all b E n) b n all 7
def erB (D : Nat → Nat → Nat) (all : Nat) (E : Nat → Nat) : Nat → Nat → Nat
  | 0 => E
  | n + 1 => erA D all n (erB D all E n) 7
theorem erA_cap {D : Nat → Nat → Nat} {all b : Nat} {E : Nat → Nat} (h : Ecap E) : ∀ n, Ecap (erA D all b E n)
  | 0 => h
  | n + 1 => gof_cap (erA_cap h n) 7
theorem erB_cap {D : Nat → Nat → Nat} {all : Nat} {E : Nat → Nat} (h : Ecap E) : ∀ n, Ecap (erB D all E n)
  | 0 => h
  | n + 1 => erA_cap (erB_cap h n) 7
def E00 (f : Nat) : Nat → Nat := upN (fun _ => 1000000) (2 ^ f * 7 + f) 0
theorem E00_cap (f : Nat) : Ecap (E00 f) := fun k => by show (if k = _ then 0 else 1000000) ≤ 1000000; split <;> omega
def minE (E : Nat → Nat) (all : Nat) : Nat → Nat
  | 0 => 1000000
  | n + 1 => min (minE E all n) (E (all * 7 + n))
theorem minE_le (E : Nat → Nat) (all : Nat) : ∀ n, minE E all n ≤ 1000000
  | 0 => Nat.le_refl _
  | n + 1 => Nat.le_trans (Nat.min_le_left _ _) (minE_le E all n)
/-- the errands' fewest minutes -/
def errD (D : Nat → Nat → Nat) (f pl : Nat) : Nat := minE (erB D (pl ||| 2 ^ f) (E00 f) (pl ||| 2 ^ f)) (pl ||| 2 ^ f) 7
def errPost (Z : ZZ) (h : Nat) (q : Nat → Nat) (D : Nat → Nat → Nat) (r : Nat) : Option Value → va_W → Prop := fun v ws => v = some (.int (nI r)) ∧ ∃ T, Mat T D ∧ ws = wW Z h q T
set_option maxHeartbeats 4000000 in
set_option maxRecDepth 20000 in
theorem con_JA_fill (l : Launch) (Z : ZZ) (a N : Nat) (f : Nat → Int32) (x : Int32) (hN : N < 2 ^ 31) : Con l Z yJA_fill cJA_fill 4 none 0 [.ref a, .int x] [(a, .inl (zI Z, N, .inl f))] (Fn none [(a, .inl (zI Z, N, .inl (fun k => if k < N then x else f k)))]) := by
  refine Con.of (by decide) (Nat.le_of_ble_eq_true rfl) (fun X hX hQ => ?_)
  show G X Z [(a, .inl (zI Z, N, .inl f))] 0 [(0, .ref a), (1, .int x)] []
  refine g_iconst (v := 0) hX dJA_fill_0 (by decide) ?_
  refine g_istore_n (lv1 := [(0, .ref a), (1, .int x), (2, .int 0)]) hX dJA_fill_1 (by decide) [1, 2, 0] rfl ?_
  refine g_aload_n hX dJA_fill_2 0 rfl ?_
  refine g_alen (v := nI N) hX 0 0 rfl rfl rfl dJA_fill_3 ?_
  refine g_istore_n (lv1 := [(0, .ref a), (1, .int x), (2, .int 0), (3, .int (nI N))]) hX dJA_fill_4 (by decide) [1, 2, 3, 0] rfl ?_
  have hL : ∀ i0, i0 ≤ N → ∀ (g0 : Nat → Int32), (∀ k, g0 k = if k < i0 then x else f k) → G X Z [(a, .inl (zI Z, N, .inl g0))] 5 [(0, .ref a), (1, .int x), (2, .int (nI i0)), (3, .int (nI N))] [] := by
    refine loopUp _ N ?_ (fun i0 hi0 ih0 => ?_)
    · intro g0 hg0
      refine g_iload_n hX dJA_fill_5 2 rfl ?_
      refine g_iload_n hX dJA_fill_6 3 rfl ?_
      refine g_icmp_ge hX 20 dJA_fill_7 (by decide) (fun c_7 => ?_) (fun c_7 => absurd (nI_le (a := N) (b := N) (Nat.le_refl _) hN) c_7)
      rw [show g0 = (fun k => if k < N then x else f k) from funext hg0]
      exact r_vret hX hQ dJA_fill_20 rfl ⟨rfl, rfl⟩
    · intro g0 hg0
      refine g_iload_n hX dJA_fill_5 2 rfl ?_
      refine g_iload_n hX dJA_fill_6 3 rfl ?_
      refine g_icmp_ge hX 20 dJA_fill_7 (by decide) (fun c_7 => absurd c_7 (nI_ge (a := i0) (b := N) hi0 hN)) (fun c_7 => ?_)
      refine g_aload_n hX dJA_fill_10 0 rfl ?_
      refine g_iload_n hX dJA_fill_11 2 rfl ?_
      refine g_iload_n hX dJA_fill_12 1 rfl ?_
      refine g_ast (ws1 := [(a, .inl (zI Z, N, .inl (upd g0 i0 x)))]) hX 0 rfl i0 hi0 hN rfl dJA_fill_13 rfl ?_
      refine g_iinc (v := nI (i0 + 1)) (lv1 := [(0, .ref a), (1, .int x), (2, .int (nI (i0 + 1))), (3, .int (nI N))]) hX dJA_fill_14 2 rfl (inc_nat _) (by decide) [1, 2, 0, 3] rfl ?_
      refine g_goto hX 5 dJA_fill_17 (by decide) ?_
      refine ih0 (upd g0 i0 x) (fun k => ?_)
      unfold upd
      by_cases e : k = i0
      · rw [if_pos e, if_pos (by omega)]
      · rw [if_neg e, hg0 k]
        by_cases e2 : k < i0
        · rw [if_pos e2, if_pos (by omega)]
        · rw [if_neg e2, if_neg (by omega)]
  exact hL 0 (Nat.zero_le _) f (fun k => by rw [if_neg (by omega)])
theorem err_start {S : St} {D : Nat → Nat → Nat} (hM : Mat S D) (f : Nat) : Mat (sw (sr S 8 (fun k => if k < 896 then 1000000 else S 8 k)) 8 (2 ^ f * 7 + f) 0) D ∧ Ev (sw (sr S 8 (fun k => if k < 896 then 1000000 else S 8 k)) 8 (2 ^ f * 7 + f) 0) (E00 f) := by
  refine ⟨Mat_8 (fun a ha b hb => by rw [sr_ne _ _ (by omega)]; exact hM a ha b hb), Ev_up (v := 0) (fun k hk => ?_)⟩
  rw [sr_eq, if_pos hk]
  rfl
set_option maxHeartbeats 4000000 in
set_option maxRecDepth 20000 in
theorem con_W_goOnFrom (l : Launch) (Z : ZZ) (h : Nat) (q : Nat → Nat) (S : St) (D : Nat → Nat → Nat) (E : Nat → Nat) (hM : Mat S D) (hC : Cap D) (hE : Ev S E) (hEc : Ecap E) (b0 p0 all : Nat) (hb0 : b0 < 128) (hp0 : p0 < 7) (hal : all < 128) : Con l Z yW_goOnFrom cW_goOnFrom 8 none 1 [.ref h, .int (nI b0), .int (nI p0), .int (nI all)] (wW Z h q S) (gofPost Z h q D (gof D E b0 p0 all 7)) := by
  refine Con.of (by decide) (Nat.le_of_ble_eq_true rfl) (fun X hX hQ => ?_)
  show G X Z (wW Z h q S) 0 [(0, .ref h), (1, .int (nI b0)), (2, .int (nI p0)), (3, .int (nI all))] []
  refine g_aload_n hX dW_goOnFrom_0 0 rfl ?_
  refine g_get hX 0 rfl rfl 1 (by decide) uu_W q_125 rfl rfl dW_goOnFrom_1 ?_
  refine g_iload_n hX dW_goOnFrom_4 1 rfl ?_
  refine g_bipush (v := 7) hX dW_goOnFrom_5 (by decide) ?_
  refine g_imul (z := (nI (b0 * 7))) hX dW_goOnFrom_7 (pk_mul b0 7) ?_
  refine g_iload_n hX dW_goOnFrom_8 2 rfl ?_
  refine g_iadd (z := (nI ((b0 * 7) + p0))) hX dW_goOnFrom_9 (nI_add (b0 * 7) p0) ?_
  refine g_ald (v := (nI (E (b0 * 7 + p0)))) hX 9 rfl ((b0 * 7) + p0) (by omega) (by decide) (rfl) (hE (b0 * 7 + p0) (by omega)) dW_goOnFrom_10 ?_
  refine g_istore (lv1 := [(0, .ref h), (1, .int (nI b0)), (2, .int (nI p0)), (3, .int (nI all)), (4, .int (nI (E (b0 * 7 + p0))))]) hX dW_goOnFrom_11 (by decide) [1, 2, 3, 4, 0] rfl ?_
  refine g_iconst (v := 0) hX dW_goOnFrom_13 (by decide) ?_
  refine g_istore (lv1 := [(0, .ref h), (1, .int (nI b0)), (2, .int (nI p0)), (3, .int (nI all)), (4, .int (nI (E (b0 * 7 + p0)))), (5, .int 0)]) hX dW_goOnFrom_14 (by decide) [1, 2, 3, 4, 5, 0] rfl ?_
  have hL_16 : ∀ n0, n0 ≤ 7 → ∀ (T0 : St), Mat T0 D ∧ Ev T0 (gof D E b0 p0 all n0) → G X Z (wW Z h q T0) 16 [(0, .ref h), (1, .int (nI b0)), (2, .int (nI p0)), (3, .int (nI all)), (4, .int (nI (E (b0 * 7 + p0)))), (5, .int (nI n0))] [] := by
    refine loopUp _ 7 ?_ (fun n0 hi_n0 ih_n0 => ?_)
    · intro T0 hq_n0
      refine g_iload hX dW_goOnFrom_16 5 rfl ?_
      refine g_bipush (v := 7) hX dW_goOnFrom_18 (by decide) ?_
      refine g_icmp_ge hX 90 dW_goOnFrom_20 (by decide) (fun c_20 => ?_) (fun c_20 => absurd (nI_le (a := 7) (b := 7) (Nat.le_refl _) (by omega)) c_20)
      exact r_vret hX hQ dW_goOnFrom_90 rfl (⟨rfl, T0, hq_n0.1, hq_n0.2, rfl⟩)
    · intro T0 hq_n0
      refine g_iload hX dW_goOnFrom_16 5 rfl ?_
      refine g_bipush (v := 7) hX dW_goOnFrom_18 (by decide) ?_
      refine g_icmp_ge hX 90 dW_goOnFrom_20 (by decide) (fun c_20 => absurd c_20 (nI_ge (a := n0) (b := 7) hi_n0 (by omega))) (fun c_20 => ?_)
      refine g_iload_n hX dW_goOnFrom_23 1 rfl ?_
      refine g_iconst (v := 1) hX dW_goOnFrom_24 (by decide) ?_
      refine g_iload hX dW_goOnFrom_25 5 rfl ?_
      refine g_ishl (z := (nI (2 ^ n0))) hX dW_goOnFrom_27 (shl7 n0 hi_n0) ?_
      refine g_ior (z := (nI (b0 ||| 2 ^ n0))) hX dW_goOnFrom_28 (or_nI b0 (2 ^ n0)) ?_
      refine g_istore (lv1 := [(0, .ref h), (1, .int (nI b0)), (2, .int (nI p0)), (3, .int (nI all)), (4, .int (nI (E (b0 * 7 + p0)))), (5, .int (nI n0)), (6, .int (nI (b0 ||| 2 ^ n0)))]) hX dW_goOnFrom_29 (by decide) [1, 2, 3, 4, 5, 6, 0] rfl ?_
      refine g_iload hX dW_goOnFrom_31 6 rfl ?_
      refine g_iload_n hX dW_goOnFrom_33 1 rfl ?_
      refine g_icmp_eq hX 84 dW_goOnFrom_34 (by decide) (fun c_34 => ?_) (fun c_34 => ?_)
      · refine g_iinc (v := (nI (n0 + 1))) (lv1 := [(0, .ref h), (1, .int (nI b0)), (2, .int (nI p0)), (3, .int (nI all)), (4, .int (nI (E (b0 * 7 + p0)))), (5, .int (nI (n0 + 1))), (6, .int (nI (b0 ||| 2 ^ n0)))]) hX dW_goOnFrom_84 5 rfl (inc_nat _) (by decide) [1, 2, 3, 4, 5, 0, 6] rfl ?_
        refine g_goto hX 16 dW_goOnFrom_87 (by decide) ?_
        refine g_lv (lv1 := [(0, .ref h), (1, .int (nI b0)), (2, .int (nI p0)), (3, .int (nI all)), (4, .int (nI (E (b0 * 7 + p0)))), (5, .int (nI (n0 + 1)))]) [0, 1, 2, 3, 4, 5] rfl ?_
        exact ih_n0 T0 (⟨hq_n0.1, by rw [gof_1 hb0 hi_n0 c_34]; exact hq_n0.2⟩)
      · refine g_iload hX dW_goOnFrom_37 6 rfl ?_
        refine g_iload_n hX dW_goOnFrom_39 3 rfl ?_
        refine g_ior (z := (nI ((b0 ||| 2 ^ n0) ||| all))) hX dW_goOnFrom_40 (or_nI _ _) ?_
        refine g_iload_n hX dW_goOnFrom_41 3 rfl ?_
        refine g_icmp_ne hX 84 dW_goOnFrom_42 (by decide) (fun c_42 => ?_) (fun c_42 => ?_)
        · refine g_iinc (v := (nI (n0 + 1))) (lv1 := [(0, .ref h), (1, .int (nI b0)), (2, .int (nI p0)), (3, .int (nI all)), (4, .int (nI (E (b0 * 7 + p0)))), (5, .int (nI (n0 + 1))), (6, .int (nI (b0 ||| 2 ^ n0)))]) hX dW_goOnFrom_84 5 rfl (inc_nat _) (by decide) [1, 2, 3, 4, 5, 0, 6] rfl ?_
          refine g_goto hX 16 dW_goOnFrom_87 (by decide) ?_
          refine g_lv (lv1 := [(0, .ref h), (1, .int (nI b0)), (2, .int (nI p0)), (3, .int (nI all)), (4, .int (nI (E (b0 * 7 + p0)))), (5, .int (nI (n0 + 1)))]) [0, 1, 2, 3, 4, 5] rfl ?_
          exact ih_n0 T0 (⟨hq_n0.1, by rw [gof_2 hi_n0 c_34 c_42]; exact hq_n0.2⟩)
        · refine g_iload hX dW_goOnFrom_45 6 rfl ?_
          refine g_bipush (v := 7) hX dW_goOnFrom_47 (by decide) ?_
          refine g_imul (z := (nI ((b0 ||| 2 ^ n0) * 7))) hX dW_goOnFrom_49 (pk_mul (b0 ||| 2 ^ n0) 7) ?_
          refine g_iload hX dW_goOnFrom_50 5 rfl ?_
          refine g_iadd (z := (nI (((b0 ||| 2 ^ n0) * 7) + n0))) hX dW_goOnFrom_52 (nI_add ((b0 ||| 2 ^ n0) * 7) n0) ?_
          refine g_istore (lv1 := [(0, .ref h), (1, .int (nI b0)), (2, .int (nI p0)), (3, .int (nI all)), (4, .int (nI (E (b0 * 7 + p0)))), (5, .int (nI n0)), (6, .int (nI (b0 ||| 2 ^ n0))), (7, .int (nI (((b0 ||| 2 ^ n0) * 7) + n0)))]) hX dW_goOnFrom_53 (by decide) [1, 2, 3, 4, 5, 6, 7, 0] rfl ?_
          refine g_aload_n hX dW_goOnFrom_55 0 rfl ?_
          refine g_get hX 0 rfl rfl 1 (by decide) uu_W q_125 rfl rfl dW_goOnFrom_56 ?_
          refine g_iload hX dW_goOnFrom_59 7 rfl ?_
          refine g_aload_n hX dW_goOnFrom_61 0 rfl ?_
          refine g_get hX 0 rfl rfl 1 (by decide) uu_W q_125 rfl rfl dW_goOnFrom_62 ?_
          refine g_iload hX dW_goOnFrom_65 7 rfl ?_
          refine g_ald (v := (nI (gof D E b0 p0 all n0 ((b0 ||| 2 ^ n0) * 7 + n0)))) hX 9 rfl ((b0 ||| 2 ^ n0) * 7 + n0) (by have := or128 hb0 (pow7 n0 hi_n0); omega) (by decide) (rfl) (hq_n0.2 _ (by have := or128 hb0 (pow7 n0 hi_n0); omega)) dW_goOnFrom_67 ?_
          refine g_iload hX dW_goOnFrom_68 4 rfl ?_
          refine g_aload_n hX dW_goOnFrom_70 0 rfl ?_
          refine g_get hX 0 rfl rfl 0 (by decide) uu_W q_123 rfl rfl dW_goOnFrom_71 ?_
          refine g_iload_n hX dW_goOnFrom_74 2 rfl ?_
          refine g_aald (v := q p0) hX 8 rfl p0 (by omega) (by decide) (rfl) (if_pos (by omega)) dW_goOnFrom_75 ?_
          refine g_iload hX dW_goOnFrom_76 5 rfl ?_
          refine g_ald (v := (nI (D p0 n0))) hX (1 + p0) (rowatW Z h q T0 (by omega)) n0 (by omega) (by decide) (rfl) (hq_n0.1 p0 hp0 n0 hi_n0) dW_goOnFrom_78 ?_
          refine g_iadd (z := (nI ((E (b0 * 7 + p0)) + (D p0 n0)))) hX dW_goOnFrom_79 (nI_add (E (b0 * 7 + p0)) (D p0 n0)) ?_
          refine g_mmin (z := (mn (nI (gof D E b0 p0 all n0 ((b0 ||| 2 ^ n0) * 7 + n0))) (nI ((E (b0 * 7 + p0)) + (D p0 n0))))) hX q_420 q_298 q_12 q_299 dW_goOnFrom_80 (by decide) (Nat.le_of_ble_eq_true rfl) (rfl) ?_
          refine g_ast (ws1 := wW Z h q (sw T0 8 ((b0 ||| 2 ^ n0) * 7 + n0) (mn (nI (gof D E b0 p0 all n0 ((b0 ||| 2 ^ n0) * 7 + n0))) (nI ((E (b0 * 7 + p0)) + (D p0 n0)))))) hX 9 rfl ((b0 ||| 2 ^ n0) * 7 + n0) (by have := or128 hb0 (pow7 n0 hi_n0); omega) (by decide) (rfl) dW_goOnFrom_83 (setW_S_8 Z h q T0 ((b0 ||| 2 ^ n0) * 7 + n0) (mn (nI (gof D E b0 p0 all n0 ((b0 ||| 2 ^ n0) * 7 + n0))) (nI ((E (b0 * 7 + p0)) + (D p0 n0))))) ?_
          refine g_iinc (v := (nI (n0 + 1))) (lv1 := [(0, .ref h), (1, .int (nI b0)), (2, .int (nI p0)), (3, .int (nI all)), (4, .int (nI (E (b0 * 7 + p0)))), (5, .int (nI (n0 + 1))), (6, .int (nI (b0 ||| 2 ^ n0))), (7, .int (nI (((b0 ||| 2 ^ n0) * 7) + n0)))]) hX dW_goOnFrom_84 5 rfl (inc_nat _) (by decide) [1, 2, 3, 4, 5, 0, 6, 7] rfl ?_
          refine g_goto hX 16 dW_goOnFrom_87 (by decide) ?_
          refine g_lv (lv1 := [(0, .ref h), (1, .int (nI b0)), (2, .int (nI p0)), (3, .int (nI all)), (4, .int (nI (E (b0 * 7 + p0)))), (5, .int (nI (n0 + 1)))]) [0, 1, 2, 3, 4, 5] rfl ?_
          exact ih_n0 (sw T0 8 ((b0 ||| 2 ^ n0) * 7 + n0) (mn (nI (gof D E b0 p0 all n0 ((b0 ||| 2 ^ n0) * 7 + n0))) (nI ((E (b0 * 7 + p0)) + (D p0 n0))))) (⟨Mat_8 hq_n0.1, gof_st hC hEc hp0 hb0 hi_n0 hal c_34 c_42 hq_n0.2⟩)
  exact hL_16 0 (Nat.zero_le _) S (⟨hM, hE⟩)
set_option maxHeartbeats 4000000 in
set_option maxRecDepth 20000 in
theorem con_W_errandsFrom (l : Launch) (Z : ZZ) (h : Nat) (q : Nat → Nat) (S : St) (D : Nat → Nat → Nat) (hM : Mat S D) (hC : Cap D) (f0 pl : Nat) (f0lt : f0 < 7) (hpl : pl < 128) : Con l Z yW_errandsFrom cW_errandsFrom 6 (some .int) 2 [.ref h, .int (nI f0), .int (nI pl)] (wW Z h q S) (errPost Z h q D (errD D f0 pl)) := by
  refine Con.of (by decide) (Nat.le_of_ble_eq_true rfl) (fun X hX hQ => ?_)
  show G X Z (wW Z h q S) 0 [(0, .ref h), (1, .int (nI f0)), (2, .int (nI pl))] []
  refine g_iload_n hX dW_errandsFrom_0 1 rfl ?_
  refine g_callN hX (con_X_isPlace l Z (nI f0)) msX_isPlace (fun U H hE => hE.1.2.2.2.2) rfl (by decide) rfl (Nat.le_of_ble_eq_true rfl) dW_errandsFrom_1 [] rfl rfl (g_fn (ws1 := wW Z h q S) (st1 := [.int (isPlaceS (nI f0))]) rfl rfl ?_)
  refine g_if_eq hX 18 dW_errandsFrom_4 (by decide) (fun c_4 => absurd c_4 (by rw [isPlace_yes f0lt]; decide)) (fun c_4 => ?_)
  refine g_iload_n hX dW_errandsFrom_7 2 rfl ?_
  refine g_if_lt hX 18 dW_errandsFrom_8 (by decide) (fun c_8 => absurd c_8 (nI_pos (by omega))) (fun c_8 => ?_)
  refine g_iload_n hX dW_errandsFrom_11 2 rfl ?_
  refine g_sipush (v := 128) hX dW_errandsFrom_12 (by decide) ?_
  refine g_icmp_lt hX 21 dW_errandsFrom_15 (by decide) (fun c_15 => ?_) (fun c_15 => absurd (nI_lt (a := pl) (b := 128) hpl (by omega)) c_15)
  refine g_iload_n hX dW_errandsFrom_21 2 rfl ?_
  refine g_iconst (v := 1) hX dW_errandsFrom_22 (by decide) ?_
  refine g_iload_n hX dW_errandsFrom_23 1 rfl ?_
  refine g_ishl (z := (nI (2 ^ f0))) hX dW_errandsFrom_24 (shl7 f0 f0lt) ?_
  refine g_ior (z := (nI (pl ||| 2 ^ f0))) hX dW_errandsFrom_25 (or_nI _ _) ?_
  refine g_istore_n (lv1 := [(0, .ref h), (1, .int (nI f0)), (2, .int (nI pl)), (3, .int (nI (pl ||| 2 ^ f0)))]) hX dW_errandsFrom_26 (by decide) [1, 2, 3, 0] rfl ?_
  refine g_aload_n hX dW_errandsFrom_27 0 rfl ?_
  refine g_get hX 0 rfl rfl 1 (by decide) uu_W q_125 rfl rfl dW_errandsFrom_28 ?_
  refine g_ldc hX dW_errandsFrom_31 q_414 ?_
  refine g_callS hX (con_JA_fill l Z (q 8) 896 (S 8) 1000000 (by decide)) msJA_fill q_470 rfl (by decide) rfl (Nat.le_of_ble_eq_true rfl) dW_errandsFrom_33 [9] rfl rfl (g_fn (ws1 := wW Z h q (sr S 8 (fun k => if k < 896 then 1000000 else S 8 k))) (st1 := []) rfl rfl ?_)
  refine g_aload_n hX dW_errandsFrom_36 0 rfl ?_
  refine g_get hX 0 rfl rfl 1 (by decide) uu_W q_125 rfl rfl dW_errandsFrom_37 ?_
  refine g_iconst (v := 1) hX dW_errandsFrom_40 (by decide) ?_
  refine g_iload_n hX dW_errandsFrom_41 1 rfl ?_
  refine g_ishl (z := (nI (2 ^ f0))) hX dW_errandsFrom_42 (shl7 f0 f0lt) ?_
  refine g_bipush (v := 7) hX dW_errandsFrom_43 (by decide) ?_
  refine g_imul (z := (nI ((2 ^ f0) * 7))) hX dW_errandsFrom_45 (pk_mul (2 ^ f0) 7) ?_
  refine g_iload_n hX dW_errandsFrom_46 1 rfl ?_
  refine g_iadd (z := (nI (((2 ^ f0) * 7) + f0))) hX dW_errandsFrom_47 (nI_add ((2 ^ f0) * 7) f0) ?_
  refine g_iconst (v := 0) hX dW_errandsFrom_48 (by decide) ?_
  refine g_ast (ws1 := wW Z h q (sw (sr S 8 (fun k => if k < 896 then 1000000 else S 8 k)) 8 (2 ^ f0 * 7 + f0) 0)) hX 9 rfl (2 ^ f0 * 7 + f0) (by have := pow7 f0 f0lt; omega) (by decide) (rfl) dW_errandsFrom_49 (setW_S_8 Z h q (sr S 8 (fun k => if k < 896 then 1000000 else S 8 k)) (2 ^ f0 * 7 + f0) 0) ?_
  refine g_iconst (v := 0) hX dW_errandsFrom_50 (by decide) ?_
  refine g_istore (lv1 := [(0, .ref h), (1, .int (nI f0)), (2, .int (nI pl)), (3, .int (nI (pl ||| 2 ^ f0))), (4, .int 0)]) hX dW_errandsFrom_51 (by decide) [1, 2, 3, 4, 0] rfl ?_
  have hL_53 : ∀ b0, b0 ≤ (pl ||| 2 ^ f0) → ∀ (T0 : St), Mat T0 D ∧ Ev T0 (erB D (pl ||| 2 ^ f0) (E00 f0) b0) → G X Z (wW Z h q T0) 53 [(0, .ref h), (1, .int (nI f0)), (2, .int (nI pl)), (3, .int (nI (pl ||| 2 ^ f0))), (4, .int (nI b0))] [] := by
    refine loopUp _ (pl ||| 2 ^ f0) ?_ (fun b0 hi_b0 ih_b0 => ?_)
    · intro T0 hq_b0
      refine g_iload hX dW_errandsFrom_53 4 rfl ?_
      refine g_iload_n hX dW_errandsFrom_55 3 rfl ?_
      refine g_icmp_ge hX 90 dW_errandsFrom_56 (by decide) (fun c_56 => ?_) (fun c_56 => absurd (nI_le (a := (pl ||| 2 ^ f0)) (b := (pl ||| 2 ^ f0)) (Nat.le_refl _) (by have := or128 hpl (pow7 f0 f0lt); omega)) c_56)
      refine g_ldc hX dW_errandsFrom_90 q_414 ?_
      refine g_istore (lv1 := [(0, .ref h), (1, .int (nI f0)), (2, .int (nI pl)), (3, .int (nI (pl ||| 2 ^ f0))), (4, .int 1000000)]) hX dW_errandsFrom_92 (by decide) [1, 2, 3, 4, 0] rfl ?_
      refine g_iconst (v := 0) hX dW_errandsFrom_94 (by decide) ?_
      refine g_istore (lv1 := [(0, .ref h), (1, .int (nI f0)), (2, .int (nI pl)), (3, .int (nI (pl ||| 2 ^ f0))), (4, .int 1000000), (5, .int 0)]) hX dW_errandsFrom_95 (by decide) [1, 2, 3, 4, 5, 0] rfl ?_
      have hL_97 : ∀ z0, z0 ≤ 7 → G X Z (wW Z h q T0) 97 [(0, .ref h), (1, .int (nI f0)), (2, .int (nI pl)), (3, .int (nI (pl ||| 2 ^ f0))), (4, .int (nI (minE (erB D (pl ||| 2 ^ f0) (E00 f0) (pl ||| 2 ^ f0)) (pl ||| 2 ^ f0) z0))), (5, .int (nI z0))] [] := by
        refine loopUp _ 7 ?_ (fun z0 hi_z0 ih_z0 => ?_)
        · skip
          refine g_iload hX dW_errandsFrom_97 5 rfl ?_
          refine g_bipush (v := 7) hX dW_errandsFrom_99 (by decide) ?_
          refine g_icmp_ge hX 129 dW_errandsFrom_101 (by decide) (fun c_101 => ?_) (fun c_101 => absurd (nI_le (a := 7) (b := 7) (Nat.le_refl _) (by omega)) c_101)
          refine g_iload hX dW_errandsFrom_129 4 rfl ?_
          exact r_iret hX hQ dW_errandsFrom_131 rfl (⟨rfl, T0, hq_b0.1, rfl⟩)
        · skip
          refine g_iload hX dW_errandsFrom_97 5 rfl ?_
          refine g_bipush (v := 7) hX dW_errandsFrom_99 (by decide) ?_
          refine g_icmp_ge hX 129 dW_errandsFrom_101 (by decide) (fun c_101 => absurd c_101 (nI_ge (a := z0) (b := 7) hi_z0 (by omega))) (fun c_101 => ?_)
          refine g_iload hX dW_errandsFrom_104 4 rfl ?_
          refine g_aload_n hX dW_errandsFrom_106 0 rfl ?_
          refine g_get hX 0 rfl rfl 1 (by decide) uu_W q_125 rfl rfl dW_errandsFrom_107 ?_
          refine g_iload_n hX dW_errandsFrom_110 3 rfl ?_
          refine g_bipush (v := 7) hX dW_errandsFrom_111 (by decide) ?_
          refine g_imul (z := (nI ((pl ||| 2 ^ f0) * 7))) hX dW_errandsFrom_113 (pk_mul (pl ||| 2 ^ f0) 7) ?_
          refine g_iload hX dW_errandsFrom_114 5 rfl ?_
          refine g_iadd (z := (nI (((pl ||| 2 ^ f0) * 7) + z0))) hX dW_errandsFrom_116 (nI_add ((pl ||| 2 ^ f0) * 7) z0) ?_
          refine g_ald (v := (nI (erB D (pl ||| 2 ^ f0) (E00 f0) (pl ||| 2 ^ f0) ((pl ||| 2 ^ f0) * 7 + z0)))) hX 9 rfl ((pl ||| 2 ^ f0) * 7 + z0) (by have := or128 hpl (pow7 f0 f0lt); omega) (by decide) (rfl) (hq_b0.2 _ (by have := or128 hpl (pow7 f0 f0lt); omega)) dW_errandsFrom_117 ?_
          refine g_mmin (z := (nI (minE (erB D (pl ||| 2 ^ f0) (E00 f0) (pl ||| 2 ^ f0)) (pl ||| 2 ^ f0) (z0 + 1)))) hX q_420 q_298 q_12 q_299 dW_errandsFrom_118 (by decide) (Nat.le_of_ble_eq_true rfl) (mn_nI (Nat.lt_of_le_of_lt (minE_le _ _ _) (by decide)) (Nat.lt_of_le_of_lt (erB_cap (E00_cap f0) _ _) (by decide))) ?_
          refine g_istore (lv1 := [(0, .ref h), (1, .int (nI f0)), (2, .int (nI pl)), (3, .int (nI (pl ||| 2 ^ f0))), (4, .int (nI (minE (erB D (pl ||| 2 ^ f0) (E00 f0) (pl ||| 2 ^ f0)) (pl ||| 2 ^ f0) (z0 + 1)))), (5, .int (nI z0))]) hX dW_errandsFrom_121 (by decide) [1, 2, 3, 4, 0, 5] rfl ?_
          refine g_iinc (v := (nI (z0 + 1))) (lv1 := [(0, .ref h), (1, .int (nI f0)), (2, .int (nI pl)), (3, .int (nI (pl ||| 2 ^ f0))), (4, .int (nI (minE (erB D (pl ||| 2 ^ f0) (E00 f0) (pl ||| 2 ^ f0)) (pl ||| 2 ^ f0) (z0 + 1)))), (5, .int (nI (z0 + 1)))]) hX dW_errandsFrom_123 5 rfl (inc_nat _) (by decide) [1, 2, 3, 4, 5, 0] rfl ?_
          refine g_goto hX 97 dW_errandsFrom_126 (by decide) ?_
          exact ih_z0
      exact hL_97 0 (Nat.zero_le _)
    · intro T0 hq_b0
      refine g_iload hX dW_errandsFrom_53 4 rfl ?_
      refine g_iload_n hX dW_errandsFrom_55 3 rfl ?_
      refine g_icmp_ge hX 90 dW_errandsFrom_56 (by decide) (fun c_56 => absurd c_56 (nI_ge (a := b0) (b := (pl ||| 2 ^ f0)) hi_b0 (by have := or128 hpl (pow7 f0 f0lt); omega))) (fun c_56 => ?_)
      refine g_iconst (v := 0) hX dW_errandsFrom_59 (by decide) ?_
      refine g_istore (lv1 := [(0, .ref h), (1, .int (nI f0)), (2, .int (nI pl)), (3, .int (nI (pl ||| 2 ^ f0))), (4, .int (nI b0)), (5, .int 0)]) hX dW_errandsFrom_60 (by decide) [1, 2, 3, 4, 5, 0] rfl ?_
      have hL_62 : ∀ a0, a0 ≤ 7 → ∀ (T2 : St), Mat T2 D ∧ Ev T2 (erA D (pl ||| 2 ^ f0) b0 (erB D (pl ||| 2 ^ f0) (E00 f0) b0) a0) → G X Z (wW Z h q T2) 62 [(0, .ref h), (1, .int (nI f0)), (2, .int (nI pl)), (3, .int (nI (pl ||| 2 ^ f0))), (4, .int (nI b0)), (5, .int (nI a0))] [] := by
        refine loopUp _ 7 ?_ (fun a0 hi_a0 ih_a0 => ?_)
        · intro T2 hq_a0
          refine g_iload hX dW_errandsFrom_62 5 rfl ?_
          refine g_bipush (v := 7) hX dW_errandsFrom_64 (by decide) ?_
          refine g_icmp_ge hX 84 dW_errandsFrom_66 (by decide) (fun c_66 => ?_) (fun c_66 => absurd (nI_le (a := 7) (b := 7) (Nat.le_refl _) (by omega)) c_66)
          refine g_iinc (v := (nI (b0 + 1))) (lv1 := [(0, .ref h), (1, .int (nI f0)), (2, .int (nI pl)), (3, .int (nI (pl ||| 2 ^ f0))), (4, .int (nI (b0 + 1))), (5, .int (nI 7))]) hX dW_errandsFrom_84 4 rfl (inc_nat _) (by decide) [1, 2, 3, 4, 0, 5] rfl ?_
          refine g_goto hX 53 dW_errandsFrom_87 (by decide) ?_
          refine g_lv (lv1 := [(0, .ref h), (1, .int (nI f0)), (2, .int (nI pl)), (3, .int (nI (pl ||| 2 ^ f0))), (4, .int (nI (b0 + 1)))]) [0, 1, 2, 3, 4] rfl ?_
          exact ih_b0 T2 (hq_a0)
        · intro T2 hq_a0
          refine g_iload hX dW_errandsFrom_62 5 rfl ?_
          refine g_bipush (v := 7) hX dW_errandsFrom_64 (by decide) ?_
          refine g_icmp_ge hX 84 dW_errandsFrom_66 (by decide) (fun c_66 => absurd c_66 (nI_ge (a := a0) (b := 7) hi_a0 (by omega))) (fun c_66 => ?_)
          refine g_aload_n hX dW_errandsFrom_69 0 rfl ?_
          refine g_iload hX dW_errandsFrom_70 4 rfl ?_
          refine g_iload hX dW_errandsFrom_72 5 rfl ?_
          refine g_iload_n hX dW_errandsFrom_74 3 rfl ?_
          refine g_callV hX (con_W_goOnFrom l Z h q T2 D (erA D (pl ||| 2 ^ f0) b0 (erB D (pl ||| 2 ^ f0) (E00 f0) b0) a0) hq_a0.1 hC hq_a0.2 (erA_cap (erB_cap (E00_cap f0) b0) a0) b0 a0 (pl ||| 2 ^ f0) (Nat.lt_trans hi_b0 (or128 hpl (pow7 f0 f0lt))) hi_a0 (or128 hpl (pow7 f0 f0lt))) mvW_goOnFrom q_471 rfl (by decide) 0 rfl rfl rfl (Nat.le_of_ble_eq_true rfl) dW_errandsFrom_75 [0, 1, 2, 3, 4, 5, 6, 7, 8, 9] rfl rfl (fun v w hp => ?_)
          obtain ⟨rfl, T1, hM_T1, hE_T1, rfl⟩ := hp
          refine g_eq (ws1 := wW Z h q T1) (st1 := []) rfl rfl rfl ?_
          refine g_iinc (v := (nI (a0 + 1))) (lv1 := [(0, .ref h), (1, .int (nI f0)), (2, .int (nI pl)), (3, .int (nI (pl ||| 2 ^ f0))), (4, .int (nI b0)), (5, .int (nI (a0 + 1)))]) hX dW_errandsFrom_78 5 rfl (inc_nat _) (by decide) [1, 2, 3, 4, 5, 0] rfl ?_
          refine g_goto hX 62 dW_errandsFrom_81 (by decide) ?_
          exact ih_a0 T1 (⟨hM_T1, hE_T1⟩)
      exact hL_62 0 (Nat.zero_le _) T0 (hq_b0)
  exact hL_53 0 (Nat.zero_le _) (sw (sr S 8 (fun k => if k < 896 then 1000000 else S 8 k)) 8 (2 ^ f0 * 7 + f0) 0) (err_start hM f0)
