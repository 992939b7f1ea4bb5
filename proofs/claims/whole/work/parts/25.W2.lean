/-! the Ways: measured, and what they tell -/
theorem isPlace_yes {r : Nat} (h : r < 7) : isPlaceS (nI r) = 1 := by
  unfold isPlaceS
  rw [if_neg (nI_pos (by omega)), if_neg (show ¬ (7 : Int32) ≤ nI r from nI_ge (a := r) (b := 7) h (by omega))]
def joinD (D : Nat → Nat → Nat) (x y c : Nat) : Nat → Nat → Nat := fun a b => if (a = x ∧ b = y) ∨ (a = y ∧ b = x) then min (D a b) c else D a b
theorem join_end {S : St} {D : Nat → Nat → Nat} {x y c : Nat} (hM : Mat S D) (hC : Cap D) (hx : x < 7) (hy : y < 7) (hxy : x ≠ y) (hc : c ≤ 1000000) : Mat (sw (sw S x y (mn (nI (D x y)) (nI c))) y x (mn (nI (D y x)) (nI c))) (joinD D x y c) := by
  intro a ha b hb
  have c1 := hC a ha b hb
  rw [swv, swv]
  unfold joinD
  by_cases e1 : a = y ∧ b = x
  · obtain ⟨rfl, rfl⟩ := e1
    rw [if_pos ⟨rfl, rfl⟩, if_pos (Or.inr ⟨rfl, rfl⟩), mn_nI (by omega) (by omega)]
  · rw [if_neg e1]
    by_cases e2 : a = x ∧ b = y
    · obtain ⟨rfl, rfl⟩ := e2
      rw [if_pos ⟨rfl, rfl⟩, if_pos (Or.inl ⟨rfl, rfl⟩), mn_nI (by omega) (by omega)]
    · rw [if_neg e2, if_neg (by omega)]
      exact hM a ha b hb
def e0 (a b : Nat) : Nat := if a = b then 0 else 1000000
theorem e0_ne {i j : Nat} (h : ¬ nI i = nI j) : (1000000 : Int32) = nI (e0 i j) := by
  unfold e0
  rw [if_neg (fun q => h (by rw [q]))]
  rfl
theorem e0_eq {i j : Nat} (hi : i < 7) (hj : j < 7) (h : nI i = nI j) : (0 : Int32) = nI (e0 i j) := by
  unfold e0
  rw [if_pos ((nI_eq (by omega) (by omega)).mp h)]
  rfl
def MI (S T : St) (i j : Nat) : Prop := (∀ a, a < 7 → ∀ b, b < 7 → (a < i ∨ (a = i ∧ b < j)) → T a b = nI (e0 a b)) ∧ T 8 = S 8
theorem MI_start {S : St} : MI S S 0 0 := ⟨fun a _ b _ h => by omega, rfl⟩
theorem MI_row {S T : St} {i : Nat} (h : MI S T i 7) : MI S T (i + 1) 0 := ⟨fun a ha b hb q => h.1 a ha b hb (by omega), h.2⟩
theorem MI_step {S T : St} {i j : Nat} (h : MI S T i j) (hi : i < 7) : MI S (sw T i j (nI (e0 i j))) i (j + 1) := by
  refine ⟨fun a ha b hb q => ?_, by rw [sw_ne _ _ _ (by omega)]; exact h.2⟩
  rw [swv]
  by_cases e : a = i ∧ b = j
  · rw [if_pos e, e.1, e.2]
  · rw [if_neg e]
    exact h.1 a ha b hb (by omega)
theorem MI_end {S T : St} (h : MI S T 7 0) : Mat T e0 := fun a ha b hb => h.1 a ha b hb (Or.inl ha)
def jnD (o t c : Nat → Nat) : Nat → Nat → Nat → Nat
  | 0 => e0
  | n + 1 => joinD (jnD o t c n) (o n) (t n) (c n)
def fwD (D : Nat → Nat → Nat) : Nat → Nat → Nat → Nat
  | 0 => D
  | n + 1 => shD (fwD D n) n
/-- the fewest minutes from each place to each, by so many locks -/
def dst (o t c : Nat → Nat) (nL : Nat) : Nat → Nat → Nat := fwD (jnD o t c nL) 7
theorem e0_cap : Cap e0 := fun a _ b _ => by unfold e0; split <;> omega
theorem e0_diag : ∀ a, e0 a a = 0 := fun a => if_pos rfl
theorem jn_le (o t c : Nat → Nat) : ∀ n a b, jnD o t c n a b ≤ e0 a b
  | 0, _, _ => Nat.le_refl _
  | n + 1, a, b => by
    refine Nat.le_trans ?_ (jn_le o t c n a b)
    show joinD _ _ _ _ a b ≤ _
    unfold joinD
    split
    · exact Nat.min_le_left _ _
    · exact Nat.le_refl _
theorem jn_cap (o t c : Nat → Nat) (n : Nat) : Cap (jnD o t c n) := fun a ha b hb => Nat.le_trans (jn_le o t c n a b) (e0_cap a ha b hb)
theorem jn_diag (o t c : Nat → Nat) (n a : Nat) : jnD o t c n a a = 0 := Nat.le_zero.mp (Nat.le_trans (jn_le o t c n a a) (Nat.le_of_eq (e0_diag a)))
theorem fw_le (D : Nat → Nat → Nat) : ∀ n a b, fwD D n a b ≤ D a b
  | 0, _, _ => Nat.le_refl _
  | n + 1, a, b => Nat.le_trans (Nat.min_le_left _ _) (fw_le D n a b)
theorem fw_cap {D : Nat → Nat → Nat} (h : Cap D) (n : Nat) : Cap (fwD D n) := fun a ha b hb => Nat.le_trans (fw_le D n a b) (h a ha b hb)
theorem fw_diag {D : Nat → Nat → Nat} (h : ∀ a, D a a = 0) (n a : Nat) : fwD D n a a = 0 := Nat.le_zero.mp (Nat.le_trans (fw_le D n a a) (Nat.le_of_eq (h a)))
theorem dst_cap (o t c : Nat → Nat) (nL : Nat) : Cap (dst o t c nL) := fw_cap (jn_cap o t c nL) 7
/-- what a burrow's locks are, as natural numbers -/
def Lks (S : St) (nL : Nat) (o t c : Nat → Nat) : Prop := ∀ g, g < nL → S 2 g = nI (o g) ∧ S 3 g = nI (t g) ∧ S 5 g = nI (c g) ∧ o g < 7 ∧ t g < 7 ∧ o g ≠ t g ∧ c g ≤ 9
/-- the least of the first rooms' -/
def minD (D : Nat → Nat → Nat) (f : Nat) : Nat → Nat
  | 0 => 1000000
  | n + 1 => min (minD D f n) (D f n)
theorem minD_le (D : Nat → Nat → Nat) (f : Nat) : ∀ n, minD D f n ≤ 1000000
  | 0 => Nat.le_refl _
  | n + 1 => Nat.le_trans (Nat.min_le_left _ _) (minD_le D f n)
def frV (D : Nat → Nat → Nat) : Nat → Int32
  | 0 => -1
  | n + 1 => if 1000000 ≤ nI (D 6 n) then frV D n else if nI (D 6 n) ≤ frV D n then frV D n else nI (D 6 n)
def frR (D : Nat → Nat → Nat) : Nat → Int32
  | 0 => -9
  | n + 1 => if 1000000 ≤ nI (D 6 n) then frR D n else if nI (D 6 n) ≤ frV D n then frR D n else nI n
/-- the longest way, were these two joined -/
def lwD (D : Nat → Nat → Nat) (x y : Nat) : Nat → Nat
  | 0 => 0
  | n + 1 => max (lwD D x y n) (min (D 6 n) (min (D 6 x + 1 + D y n) (D 6 y + 1 + D x n)))
theorem lwD_le {D : Nat → Nat → Nat} (hC : Cap D) (x y : Nat) : ∀ n, n ≤ 6 → lwD D x y n ≤ 1000000
  | 0, _ => Nat.zero_le _
  | n + 1, h => Nat.max_le.mpr ⟨lwD_le hC x y n (by omega), Nat.le_trans (Nat.min_le_left _ _) (hC 6 (by omega) n (by omega))⟩
set_option maxHeartbeats 4000000 in
set_option maxRecDepth 20000 in
theorem con_W_join (l : Launch) (Z : ZZ) (h : Nat) (q : Nat → Nat) (S : St) (D : Nat → Nat → Nat) (hM : Mat S D) (hC : Cap D) (x y c : Nat) (hx : x < 7) (hy : y < 7) (hxy : x ≠ y) (hc : c ≤ 1000000) : Con l Z yW_join cW_join 4 none 1 [.ref h, .int (nI x), .int (nI y), .int (nI c)] (wW Z h q S) (wayPost Z h q S (joinD D x y c)) := by
  refine Con.of (by decide) (Nat.le_of_ble_eq_true rfl) (fun X hX hQ => ?_)
  show G X Z (wW Z h q S) 0 [(0, .ref h), (1, .int (nI x)), (2, .int (nI y)), (3, .int (nI c))] []
  refine g_iload_n hX dW_join_0 1 rfl ?_
  refine g_callN hX (con_X_isPlace l Z (nI x)) msX_isPlace (fun U H hE => hE.1.2.2.2.2) rfl (by decide) rfl (Nat.le_of_ble_eq_true rfl) dW_join_1 [] rfl rfl (g_fn (ws1 := wW Z h q S) (st1 := [.int (isPlaceS (nI x))]) rfl rfl ?_)
  refine g_if_eq hX 54 dW_join_4 (by decide) (fun c_4 => absurd c_4 (by rw [isPlace_yes hx]; decide)) (fun c_4 => ?_)
  refine g_iload_n hX dW_join_7 2 rfl ?_
  refine g_callN hX (con_X_isPlace l Z (nI y)) msX_isPlace (fun U H hE => hE.1.2.2.2.2) rfl (by decide) rfl (Nat.le_of_ble_eq_true rfl) dW_join_8 [] rfl rfl (g_fn (ws1 := wW Z h q S) (st1 := [.int (isPlaceS (nI y))]) rfl rfl ?_)
  refine g_if_eq hX 54 dW_join_11 (by decide) (fun c_11 => absurd c_11 (by rw [isPlace_yes hy]; decide)) (fun c_11 => ?_)
  refine g_aload_n hX dW_join_14 0 rfl ?_
  refine g_get hX 0 rfl rfl 0 (by decide) uu_W q_123 rfl rfl dW_join_15 ?_
  refine g_iload_n hX dW_join_18 1 rfl ?_
  refine g_aald (v := q x) hX 8 rfl x (by omega) (by decide) (rfl) (if_pos (by omega)) dW_join_19 ?_
  refine g_iload_n hX dW_join_20 2 rfl ?_
  refine g_aload_n hX dW_join_21 0 rfl ?_
  refine g_get hX 0 rfl rfl 0 (by decide) uu_W q_123 rfl rfl dW_join_22 ?_
  refine g_iload_n hX dW_join_25 1 rfl ?_
  refine g_aald (v := q x) hX 8 rfl x (by omega) (by decide) (rfl) (if_pos (by omega)) dW_join_26 ?_
  refine g_iload_n hX dW_join_27 2 rfl ?_
  refine g_ald (v := (nI (D x y))) hX (1 + x) (rowatW Z h q S (by omega)) y (by omega) (by decide) (rfl) (hM x hx y hy) dW_join_28 ?_
  refine g_iload_n hX dW_join_29 3 rfl ?_
  refine g_mmin (z := (mn (nI (D x y)) (nI c))) hX q_420 q_298 q_12 q_299 dW_join_30 (by decide) (Nat.le_of_ble_eq_true rfl) (rfl) ?_
  refine g_ast (ws1 := wW Z h q (sw S x y (mn (nI (D x y)) (nI c)))) hX (1 + x) (rowatW Z h q S (by omega)) y (by omega) (by decide) (rfl) dW_join_33 (setrowW Z h q S (by omega) y (mn (nI (D x y)) (nI c))) ?_
  refine g_aload_n hX dW_join_34 0 rfl ?_
  refine g_get hX 0 rfl rfl 0 (by decide) uu_W q_123 rfl rfl dW_join_35 ?_
  refine g_iload_n hX dW_join_38 2 rfl ?_
  refine g_aald (v := q y) hX 8 rfl y (by omega) (by decide) (rfl) (if_pos (by omega)) dW_join_39 ?_
  refine g_iload_n hX dW_join_40 1 rfl ?_
  refine g_aload_n hX dW_join_41 0 rfl ?_
  refine g_get hX 0 rfl rfl 0 (by decide) uu_W q_123 rfl rfl dW_join_42 ?_
  refine g_iload_n hX dW_join_45 2 rfl ?_
  refine g_aald (v := q y) hX 8 rfl y (by omega) (by decide) (rfl) (if_pos (by omega)) dW_join_46 ?_
  refine g_iload_n hX dW_join_47 1 rfl ?_
  refine g_ald (v := (nI (D y x))) hX (1 + y) (rowatW Z h q (sw S x y (mn (nI (D x y)) (nI c))) (by omega)) x (by omega) (by decide) (rfl) (by rw [swv, if_neg (by omega)]; exact hM y hy x hx) dW_join_48 ?_
  refine g_iload_n hX dW_join_49 3 rfl ?_
  refine g_mmin (z := (mn (nI (D y x)) (nI c))) hX q_420 q_298 q_12 q_299 dW_join_50 (by decide) (Nat.le_of_ble_eq_true rfl) (rfl) ?_
  refine g_ast (ws1 := wW Z h q (sw (sw S x y (mn (nI (D x y)) (nI c))) y x (mn (nI (D y x)) (nI c)))) hX (1 + y) (rowatW Z h q (sw S x y (mn (nI (D x y)) (nI c))) (by omega)) x (by omega) (by decide) (rfl) dW_join_53 (setrowW Z h q (sw S x y (mn (nI (D x y)) (nI c))) (by omega) x (mn (nI (D y x)) (nI c))) ?_
  exact r_vret hX hQ dW_join_54 rfl (⟨rfl, _, join_end hM hC hx hy hxy hc, by rw [sw_ne _ _ _ (by omega), sw_ne _ _ _ (by omega)], rfl⟩)
def measPost (Z : ZZ) (h : Nat) (q : Nat → Nat) (S : St) (h2 : Nat) (q2 : Nat → Nat) (S2 : St) (D : Nat → Nat → Nat) : Option Value → va_W → Prop := fun v ws => v = none ∧ ∃ T, Mat T D ∧ T 8 = S 8 ∧ ws = wW Z h q T ++ wB Z h2 q2 S2
set_option maxHeartbeats 4000000 in
set_option maxRecDepth 20000 in
theorem con_W_measure (l : Launch) (Z : ZZ) (h : Nat) (q : Nat → Nat) (S : St) (h2 : Nat) (q2 : Nat → Nat) (S2 : St) (nL : Nat) (o t c : Nat → Nat) (hL : S2 12 0 = nI nL) (hL7 : nL ≤ 7) (hLk : Lks S2 nL o t c) : Con l Z yW_measure cW_measure 4 none 2 [.ref h, .ref h2] (wW Z h q S ++ wB Z h2 q2 S2) (measPost Z h q S h2 q2 S2 (dst o t c nL)) := by
  refine Con.of (by decide) (Nat.le_of_ble_eq_true rfl) (fun X hX hQ => ?_)
  show G X Z (wW Z h q S ++ wB Z h2 q2 S2) 0 [(0, .ref h), (1, .ref h2)] []
  refine g_iconst (v := 0) hX dW_measure_0 (by decide) ?_
  refine g_istore_n (lv1 := [(0, .ref h), (1, .ref h2), (2, .int 0)]) hX dW_measure_1 (by decide) [1, 2, 0] rfl ?_
  have hL_2 : ∀ i, i ≤ 7 → ∀ (T : St), MI S T i 0 → G X Z ((wW Z h q T ++ wB Z h2 q2 S2)) 2 [(0, .ref h), (1, .ref h2), (2, .int (nI i))] [] := by
    refine loopUp _ 7 ?_ (fun i hi_i ih_i => ?_)
    · intro T hq_i
      refine g_iload_n hX dW_measure_2 2 rfl ?_
      refine g_bipush (v := 7) hX dW_measure_3 (by decide) ?_
      refine g_icmp_ge hX 47 dW_measure_5 (by decide) (fun c_5 => ?_) (fun c_5 => absurd (nI_le (a := 7) (b := 7) (Nat.le_refl _) (by omega)) c_5)
      refine g_iconst (v := 0) hX dW_measure_47 (by decide) ?_
      refine g_istore_n (lv1 := [(0, .ref h), (1, .ref h2), (2, .int 0)]) hX dW_measure_48 (by decide) [1, 2, 0] rfl ?_
      have hL_49 : ∀ g, g ≤ nL → ∀ (U : St), Mat U (jnD o t c g) ∧ U 8 = S 8 → G X Z ((wW Z h q U ++ wB Z h2 q2 S2)) 49 [(0, .ref h), (1, .ref h2), (2, .int (nI g))] [] := by
        refine loopUp _ nL ?_ (fun g hi_g ih_g => ?_)
        · intro U hq_g
          refine g_iload_n hX dW_measure_49 2 rfl ?_
          refine g_aload_n hX dW_measure_50 1 rfl ?_
          refine g_get hX 10 rfl rfl 7 (by decide) uu_B q_50 rfl rfl dW_measure_51 ?_
          refine g_top (y := (nI nL)) (hL) ?_
          refine g_icmp_ge hX 85 dW_measure_54 (by decide) (fun c_54 => ?_) (fun c_54 => absurd (nI_le (a := nL) (b := nL) (Nat.le_refl _) (by omega)) c_54)
          refine g_iconst (v := 0) hX dW_measure_85 (by decide) ?_
          refine g_istore_n (lv1 := [(0, .ref h), (1, .ref h2), (2, .int 0)]) hX dW_measure_86 (by decide) [1, 2, 0] rfl ?_
          have hL_87 : ∀ b, b ≤ 7 → ∀ (V : St), Mat V (fwD (jnD o t c nL) b) ∧ V 8 = S 8 → G X Z ((wW Z h q V ++ wB Z h2 q2 S2)) 87 [(0, .ref h), (1, .ref h2), (2, .int (nI b))] [] := by
            refine loopUp _ 7 ?_ (fun b hi_b ih_b => ?_)
            · intro V hq_b
              refine g_iload_n hX dW_measure_87 2 rfl ?_
              refine g_bipush (v := 7) hX dW_measure_88 (by decide) ?_
              refine g_icmp_ge hX 104 dW_measure_90 (by decide) (fun c_90 => ?_) (fun c_90 => absurd (nI_le (a := 7) (b := 7) (Nat.le_refl _) (by omega)) c_90)
              exact r_vret hX hQ dW_measure_104 rfl (⟨rfl, V, hq_b.1, hq_b.2, rfl⟩)
            · intro V hq_b
              refine g_iload_n hX dW_measure_87 2 rfl ?_
              refine g_bipush (v := 7) hX dW_measure_88 (by decide) ?_
              refine g_icmp_ge hX 104 dW_measure_90 (by decide) (fun c_90 => absurd c_90 (nI_ge (a := b) (b := 7) hi_b (by omega))) (fun c_90 => ?_)
              refine g_aload_n hX dW_measure_93 0 rfl ?_
              refine g_iload_n hX dW_measure_94 2 rfl ?_
              refine g_callV hX (con_W_shortenBy l Z h q V (fwD (jnD o t c nL) b) hq_b.1 (fw_cap (jn_cap o t c nL) b) b hi_b (fw_diag (jn_diag o t c nL) b b)) mvW_shortenBy q_421 rfl (by decide) 0 rfl rfl rfl (Nat.le_of_ble_eq_true rfl) dW_measure_95 [0, 1, 2, 3, 4, 5, 6, 7, 8, 9] rfl rfl (fun v w hp => ?_)
              obtain ⟨rfl, T2, hM_T2, h8_T2, rfl⟩ := hp
              refine g_eq (ws1 := (wW Z h q T2 ++ wB Z h2 q2 S2)) (st1 := []) rfl rfl rfl ?_
              refine g_iinc (v := (nI (b + 1))) (lv1 := [(0, .ref h), (1, .ref h2), (2, .int (nI (b + 1)))]) hX dW_measure_98 2 rfl (inc_nat _) (by decide) [1, 2, 0] rfl ?_
              refine g_goto hX 87 dW_measure_101 (by decide) ?_
              exact ih_b T2 (⟨hM_T2, h8_T2.trans hq_b.2⟩)
          exact hL_87 0 (Nat.zero_le _) U (hq_g)
        · intro U hq_g
          refine g_iload_n hX dW_measure_49 2 rfl ?_
          refine g_aload_n hX dW_measure_50 1 rfl ?_
          refine g_get hX 10 rfl rfl 7 (by decide) uu_B q_50 rfl rfl dW_measure_51 ?_
          refine g_top (y := (nI nL)) (hL) ?_
          refine g_icmp_ge hX 85 dW_measure_54 (by decide) (fun c_54 => absurd c_54 (nI_ge (a := g) (b := nL) hi_g (by omega))) (fun c_54 => ?_)
          refine g_aload_n hX dW_measure_57 0 rfl ?_
          refine g_aload_n hX dW_measure_58 1 rfl ?_
          refine g_get hX 10 rfl rfl 2 (by decide) uu_B q_37 rfl rfl dW_measure_59 ?_
          refine g_iload_n hX dW_measure_62 2 rfl ?_
          refine g_ald (v := (nI (o g))) hX 13 rfl g (by omega) (by decide) (rfl) ((hLk g hi_g).1) dW_measure_63 ?_
          refine g_aload_n hX dW_measure_64 1 rfl ?_
          refine g_get hX 10 rfl rfl 3 (by decide) uu_B q_40 rfl rfl dW_measure_65 ?_
          refine g_iload_n hX dW_measure_68 2 rfl ?_
          refine g_ald (v := (nI (t g))) hX 14 rfl g (by omega) (by decide) (rfl) ((hLk g hi_g).2.1) dW_measure_69 ?_
          refine g_aload_n hX dW_measure_70 1 rfl ?_
          refine g_get hX 10 rfl rfl 5 (by decide) uu_B q_45 rfl rfl dW_measure_71 ?_
          refine g_iload_n hX dW_measure_74 2 rfl ?_
          refine g_ald (v := (nI (c g))) hX 16 rfl g (by omega) (by decide) (rfl) ((hLk g hi_g).2.2.1) dW_measure_75 ?_
          refine g_callV hX (con_W_join l Z h q U (jnD o t c g) hq_g.1 (jn_cap o t c g) (o g) (t g) (c g) (hLk g hi_g).2.2.2.1 (hLk g hi_g).2.2.2.2.1 (hLk g hi_g).2.2.2.2.2.1 (Nat.le_trans (hLk g hi_g).2.2.2.2.2.2 (by decide))) mvW_join q_415 rfl (by decide) 0 rfl rfl rfl (Nat.le_of_ble_eq_true rfl) dW_measure_76 [0, 1, 2, 3, 4, 5, 6, 7, 8, 9] rfl rfl (fun v w hp => ?_)
          obtain ⟨rfl, T1, hM_T1, h8_T1, rfl⟩ := hp
          refine g_eq (ws1 := (wW Z h q T1 ++ wB Z h2 q2 S2)) (st1 := []) rfl rfl rfl ?_
          refine g_iinc (v := (nI (g + 1))) (lv1 := [(0, .ref h), (1, .ref h2), (2, .int (nI (g + 1)))]) hX dW_measure_79 2 rfl (inc_nat _) (by decide) [1, 2, 0] rfl ?_
          refine g_goto hX 49 dW_measure_82 (by decide) ?_
          exact ih_g T1 (⟨hM_T1, h8_T1.trans hq_g.2⟩)
      exact hL_49 0 (Nat.zero_le _) T (⟨MI_end hq_i, hq_i.2⟩)
    · intro T hq_i
      refine g_iload_n hX dW_measure_2 2 rfl ?_
      refine g_bipush (v := 7) hX dW_measure_3 (by decide) ?_
      refine g_icmp_ge hX 47 dW_measure_5 (by decide) (fun c_5 => absurd c_5 (nI_ge (a := i) (b := 7) hi_i (by omega))) (fun c_5 => ?_)
      refine g_iconst (v := 0) hX dW_measure_8 (by decide) ?_
      refine g_istore_n (lv1 := [(0, .ref h), (1, .ref h2), (2, .int (nI i)), (3, .int 0)]) hX dW_measure_9 (by decide) [1, 2, 3, 0] rfl ?_
      have hL_10 : ∀ j, j ≤ 7 → ∀ (T : St), MI S T i j → G X Z ((wW Z h q T ++ wB Z h2 q2 S2)) 10 [(0, .ref h), (1, .ref h2), (2, .int (nI i)), (3, .int (nI j))] [] := by
        refine loopUp _ 7 ?_ (fun j hi_j ih_j => ?_)
        · intro T hq_j
          refine g_iload_n hX dW_measure_10 3 rfl ?_
          refine g_bipush (v := 7) hX dW_measure_11 (by decide) ?_
          refine g_icmp_ge hX 41 dW_measure_13 (by decide) (fun c_13 => ?_) (fun c_13 => absurd (nI_le (a := 7) (b := 7) (Nat.le_refl _) (by omega)) c_13)
          refine g_iinc (v := (nI (i + 1))) (lv1 := [(0, .ref h), (1, .ref h2), (2, .int (nI (i + 1))), (3, .int (nI 7))]) hX dW_measure_41 2 rfl (inc_nat _) (by decide) [1, 2, 0, 3] rfl ?_
          refine g_goto hX 2 dW_measure_44 (by decide) ?_
          refine g_lv (lv1 := [(0, .ref h), (1, .ref h2), (2, .int (nI (i + 1)))]) [0, 1, 2] rfl ?_
          exact ih_i T (MI_row hq_j)
        · intro T hq_j
          refine g_iload_n hX dW_measure_10 3 rfl ?_
          refine g_bipush (v := 7) hX dW_measure_11 (by decide) ?_
          refine g_icmp_ge hX 41 dW_measure_13 (by decide) (fun c_13 => absurd c_13 (nI_ge (a := j) (b := 7) hi_j (by omega))) (fun c_13 => ?_)
          refine g_aload_n hX dW_measure_16 0 rfl ?_
          refine g_get hX 0 rfl rfl 0 (by decide) uu_W q_123 rfl rfl dW_measure_17 ?_
          refine g_iload_n hX dW_measure_20 2 rfl ?_
          refine g_aald (v := q i) hX 8 rfl i (by omega) (by decide) (rfl) (if_pos (by omega)) dW_measure_21 ?_
          refine g_iload_n hX dW_measure_22 3 rfl ?_
          refine g_iload_n hX dW_measure_23 2 rfl ?_
          refine g_iload_n hX dW_measure_24 3 rfl ?_
          have hJ_34 : G X Z ((wW Z h q T ++ wB Z h2 q2 S2)) 34 [(0, .ref h), (1, .ref h2), (2, .int (nI i)), (3, .int (nI j))] [.int (nI (e0 i j)), .int (nI j), .ref (q i)] := by
            refine g_ast (ws1 := (wW Z h q (sw T i j (nI (e0 i j))) ++ wB Z h2 q2 S2)) hX (1 + i) (rowatWB Z h q T h2 q2 S2 (by omega)) j (by omega) (by decide) (rfl) dW_measure_34 (setrowWB Z h q T h2 q2 S2 (by omega) j (nI (e0 i j))) ?_
            refine g_iinc (v := (nI (j + 1))) (lv1 := [(0, .ref h), (1, .ref h2), (2, .int (nI i)), (3, .int (nI (j + 1)))]) hX dW_measure_35 3 rfl (inc_nat _) (by decide) [1, 2, 3, 0] rfl ?_
            refine g_goto hX 10 dW_measure_38 (by decide) ?_
            exact ih_j (sw T i j (nI (e0 i j))) (MI_step hq_j hi_i)
          refine g_icmp_ne hX 32 dW_measure_25 (by decide) (fun c_25 => ?_) (fun c_25 => ?_)
          · refine g_ldc hX dW_measure_32 q_414 ?_
            refine g_top (y := (nI (e0 i j))) (by first | exact e0_ne c_25 | exact e0_eq hi_i hi_j c_25) ?_
            exact hJ_34
          · refine g_iconst (v := 0) hX dW_measure_28 (by decide) ?_
            refine g_goto hX 34 dW_measure_29 (by decide) ?_
            refine g_top (y := (nI (e0 i j))) (by first | exact e0_ne c_25 | exact e0_eq hi_i hi_j c_25) ?_
            exact hJ_34
      exact hL_10 0 (Nat.zero_le _) T (hq_i)
  exact hL_2 0 (Nat.zero_le _) S (MI_start)
set_option maxHeartbeats 4000000 in
set_option maxRecDepth 20000 in
theorem con_W_toAnyRoom (l : Launch) (Z : ZZ) (h : Nat) (q : Nat → Nat) (S : St) (D : Nat → Nat → Nat) (hM : Mat S D) (hC : Cap D) (f : Nat) (hf : f < 7) : Con l Z yW_toAnyRoom cW_toAnyRoom 4 (some .int) 1 [.ref h, .int (nI f)] (wW Z h q S) (Fn (some (.int (nI (minD D f 6)))) (wW Z h q S)) := by
  refine Con.of (by decide) (Nat.le_of_ble_eq_true rfl) (fun X hX hQ => ?_)
  show G X Z (wW Z h q S) 0 [(0, .ref h), (1, .int (nI f))] []
  refine g_ldc hX dW_toAnyRoom_0 q_414 ?_
  refine g_istore_n (lv1 := [(0, .ref h), (1, .int (nI f)), (2, .int 1000000)]) hX dW_toAnyRoom_2 (by decide) [1, 2, 0] rfl ?_
  refine g_iconst (v := 0) hX dW_toAnyRoom_3 (by decide) ?_
  refine g_istore_n (lv1 := [(0, .ref h), (1, .int (nI f)), (2, .int 1000000), (3, .int 0)]) hX dW_toAnyRoom_4 (by decide) [1, 2, 3, 0] rfl ?_
  have hL_5 : ∀ i, i ≤ 6 → G X Z (wW Z h q S) 5 [(0, .ref h), (1, .int (nI f)), (2, .int (nI (minD D f i))), (3, .int (nI i))] [] := by
    refine loopUp _ 6 ?_ (fun i hi_i ih_i => ?_)
    · skip
      refine g_iload_n hX dW_toAnyRoom_5 3 rfl ?_
      refine g_bipush (v := 6) hX dW_toAnyRoom_6 (by decide) ?_
      refine g_icmp_ge hX 30 dW_toAnyRoom_8 (by decide) (fun c_8 => ?_) (fun c_8 => absurd (nI_le (a := 6) (b := 6) (Nat.le_refl _) (by omega)) c_8)
      refine g_iload_n hX dW_toAnyRoom_30 2 rfl ?_
      exact r_iret hX hQ dW_toAnyRoom_31 rfl (⟨rfl, rfl⟩)
    · skip
      refine g_iload_n hX dW_toAnyRoom_5 3 rfl ?_
      refine g_bipush (v := 6) hX dW_toAnyRoom_6 (by decide) ?_
      refine g_icmp_ge hX 30 dW_toAnyRoom_8 (by decide) (fun c_8 => absurd c_8 (nI_ge (a := i) (b := 6) hi_i (by omega))) (fun c_8 => ?_)
      refine g_iload_n hX dW_toAnyRoom_11 2 rfl ?_
      refine g_aload_n hX dW_toAnyRoom_12 0 rfl ?_
      refine g_get hX 0 rfl rfl 0 (by decide) uu_W q_123 rfl rfl dW_toAnyRoom_13 ?_
      refine g_iload_n hX dW_toAnyRoom_16 1 rfl ?_
      refine g_aald (v := q f) hX 8 rfl f (by omega) (by decide) (rfl) (if_pos (by omega)) dW_toAnyRoom_17 ?_
      refine g_iload_n hX dW_toAnyRoom_18 3 rfl ?_
      refine g_ald (v := (nI (D f i))) hX (1 + f) (rowatW Z h q S (by omega)) i (by omega) (by decide) (rfl) (hM f hf i (by omega)) dW_toAnyRoom_19 ?_
      refine g_mmin (z := (nI (minD D f (i + 1)))) hX q_420 q_298 q_12 q_299 dW_toAnyRoom_20 (by decide) (Nat.le_of_ble_eq_true rfl) (mn_nI (Nat.lt_of_le_of_lt (minD_le D f i) (by decide)) (Nat.lt_of_le_of_lt (hC f hf i (by omega)) (by decide))) ?_
      refine g_istore_n (lv1 := [(0, .ref h), (1, .int (nI f)), (2, .int (nI (minD D f (i + 1)))), (3, .int (nI i))]) hX dW_toAnyRoom_23 (by decide) [1, 2, 0, 3] rfl ?_
      refine g_iinc (v := (nI (i + 1))) (lv1 := [(0, .ref h), (1, .int (nI f)), (2, .int (nI (minD D f (i + 1)))), (3, .int (nI (i + 1)))]) hX dW_toAnyRoom_24 3 rfl (inc_nat _) (by decide) [1, 2, 3, 0] rfl ?_
      refine g_goto hX 5 dW_toAnyRoom_27 (by decide) ?_
      exact ih_i
  exact hL_5 0 (Nat.zero_le _)
set_option maxHeartbeats 4000000 in
set_option maxRecDepth 20000 in
theorem con_W_farthestRoom (l : Launch) (Z : ZZ) (h : Nat) (q : Nat → Nat) (S : St) (D : Nat → Nat → Nat) (hM : Mat S D) (hC : Cap D) : Con l Z yW_farthestRoom cW_farthestRoom 5 (some .int) 0 [.ref h] (wW Z h q S) (Fn (some (.int (frR D 6))) (wW Z h q S)) := by
  refine Con.of (by decide) (Nat.le_of_ble_eq_true rfl) (fun X hX hQ => ?_)
  show G X Z (wW Z h q S) 0 [(0, .ref h)] []
  refine g_bipush (v := (-9)) hX dW_farthestRoom_0 (by decide) ?_
  refine g_istore_n (lv1 := [(0, .ref h), (1, .int (-9))]) hX dW_farthestRoom_2 (by decide) [1, 0] rfl ?_
  refine g_iconst (v := (-1)) hX dW_farthestRoom_3 (by decide) ?_
  refine g_istore_n (lv1 := [(0, .ref h), (1, .int (-9)), (2, .int (-1))]) hX dW_farthestRoom_4 (by decide) [1, 2, 0] rfl ?_
  refine g_iconst (v := 0) hX dW_farthestRoom_5 (by decide) ?_
  refine g_istore_n (lv1 := [(0, .ref h), (1, .int (-9)), (2, .int (-1)), (3, .int 0)]) hX dW_farthestRoom_6 (by decide) [1, 2, 3, 0] rfl ?_
  have hL_7 : ∀ i, i ≤ 6 → G X Z (wW Z h q S) 7 [(0, .ref h), (1, .int (frR D i)), (2, .int (frV D i)), (3, .int (nI i))] [] := by
    refine loopUp _ 6 ?_ (fun i hi_i ih_i => ?_)
    · skip
      refine g_iload_n hX dW_farthestRoom_7 3 rfl ?_
      refine g_bipush (v := 6) hX dW_farthestRoom_8 (by decide) ?_
      refine g_icmp_ge hX 48 dW_farthestRoom_10 (by decide) (fun c_10 => ?_) (fun c_10 => absurd (nI_le (a := 6) (b := 6) (Nat.le_refl _) (by omega)) c_10)
      refine g_iload_n hX dW_farthestRoom_48 1 rfl ?_
      exact r_iret hX hQ dW_farthestRoom_49 rfl (⟨rfl, rfl⟩)
    · skip
      refine g_iload_n hX dW_farthestRoom_7 3 rfl ?_
      refine g_bipush (v := 6) hX dW_farthestRoom_8 (by decide) ?_
      refine g_icmp_ge hX 48 dW_farthestRoom_10 (by decide) (fun c_10 => absurd c_10 (nI_ge (a := i) (b := 6) hi_i (by omega))) (fun c_10 => ?_)
      refine g_aload_n hX dW_farthestRoom_13 0 rfl ?_
      refine g_get hX 0 rfl rfl 0 (by decide) uu_W q_123 rfl rfl dW_farthestRoom_14 ?_
      refine g_bipush (v := 6) hX dW_farthestRoom_17 (by decide) ?_
      refine g_aald (v := q 6) hX 8 rfl 6 (by omega) (by decide) (rfl) (if_pos (by omega)) dW_farthestRoom_19 ?_
      refine g_iload_n hX dW_farthestRoom_20 3 rfl ?_
      refine g_ald (v := (nI (D 6 i))) hX (1 + 6) (rowatW Z h q S (by omega)) i (by omega) (by decide) (rfl) (hM 6 (by omega) i (by omega)) dW_farthestRoom_21 ?_
      refine g_istore (lv1 := [(0, .ref h), (1, .int (frR D i)), (2, .int (frV D i)), (3, .int (nI i)), (4, .int (nI (D 6 i)))]) hX dW_farthestRoom_22 (by decide) [1, 2, 3, 4, 0] rfl ?_
      refine g_iload hX dW_farthestRoom_24 4 rfl ?_
      refine g_ldc hX dW_farthestRoom_26 q_414 ?_
      refine g_icmp_ge hX 42 dW_farthestRoom_28 (by decide) (fun c_28 => ?_) (fun c_28 => ?_)
      · refine g_iinc (v := (nI (i + 1))) (lv1 := [(0, .ref h), (1, .int (frR D i)), (2, .int (frV D i)), (3, .int (nI (i + 1))), (4, .int (nI (D 6 i)))]) hX dW_farthestRoom_42 3 rfl (inc_nat _) (by decide) [1, 2, 3, 0, 4] rfl ?_
        refine g_goto hX 7 dW_farthestRoom_45 (by decide) ?_
        refine g_lv (lv1 := [(0, .ref h), (1, .int (frR D i)), (2, .int (frV D i)), (3, .int (nI (i + 1)))]) [0, 1, 2, 3] rfl ?_
        have e_1 : (frR D i) = (frR D (i + 1)) := by simp [frR, c_10, c_28]
        have e_2 : (frV D i) = (frV D (i + 1)) := by simp [frV, c_10, c_28]
        exact g_eq (rfl) (by rw [e_1, e_2]) rfl ih_i
      · refine g_iload hX dW_farthestRoom_31 4 rfl ?_
        refine g_iload_n hX dW_farthestRoom_33 2 rfl ?_
        refine g_icmp_le hX 42 dW_farthestRoom_34 (by decide) (fun c_34 => ?_) (fun c_34 => ?_)
        · refine g_iinc (v := (nI (i + 1))) (lv1 := [(0, .ref h), (1, .int (frR D i)), (2, .int (frV D i)), (3, .int (nI (i + 1))), (4, .int (nI (D 6 i)))]) hX dW_farthestRoom_42 3 rfl (inc_nat _) (by decide) [1, 2, 3, 0, 4] rfl ?_
          refine g_goto hX 7 dW_farthestRoom_45 (by decide) ?_
          refine g_lv (lv1 := [(0, .ref h), (1, .int (frR D i)), (2, .int (frV D i)), (3, .int (nI (i + 1)))]) [0, 1, 2, 3] rfl ?_
          have e_1 : (frR D i) = (frR D (i + 1)) := by simp [frR, c_10, c_28, c_34]
          have e_2 : (frV D i) = (frV D (i + 1)) := by simp [frV, c_10, c_28, c_34]
          exact g_eq (rfl) (by rw [e_1, e_2]) rfl ih_i
        · refine g_iload hX dW_farthestRoom_37 4 rfl ?_
          refine g_istore_n (lv1 := [(0, .ref h), (1, .int (frR D i)), (2, .int (nI (D 6 i))), (3, .int (nI i)), (4, .int (nI (D 6 i)))]) hX dW_farthestRoom_39 (by decide) [1, 2, 0, 3, 4] rfl ?_
          refine g_iload_n hX dW_farthestRoom_40 3 rfl ?_
          refine g_istore_n (lv1 := [(0, .ref h), (1, .int (nI i)), (2, .int (nI (D 6 i))), (3, .int (nI i)), (4, .int (nI (D 6 i)))]) hX dW_farthestRoom_41 (by decide) [1, 0, 2, 3, 4] rfl ?_
          refine g_iinc (v := (nI (i + 1))) (lv1 := [(0, .ref h), (1, .int (nI i)), (2, .int (nI (D 6 i))), (3, .int (nI (i + 1))), (4, .int (nI (D 6 i)))]) hX dW_farthestRoom_42 3 rfl (inc_nat _) (by decide) [1, 2, 3, 0, 4] rfl ?_
          refine g_goto hX 7 dW_farthestRoom_45 (by decide) ?_
          refine g_lv (lv1 := [(0, .ref h), (1, .int (nI i)), (2, .int (nI (D 6 i))), (3, .int (nI (i + 1)))]) [0, 1, 2, 3] rfl ?_
          have e_1 : (nI i) = (frR D (i + 1)) := by simp [frR, c_10, c_28, c_34]
          have e_2 : (nI (D 6 i)) = (frV D (i + 1)) := by simp [frV, c_10, c_28, c_34]
          exact g_eq (rfl) (by rw [e_1, e_2]) rfl ih_i
  exact hL_7 0 (Nat.zero_le _)
set_option maxHeartbeats 4000000 in
set_option maxRecDepth 20000 in
theorem con_W_longestWith (l : Launch) (Z : ZZ) (h : Nat) (q : Nat → Nat) (S : St) (D : Nat → Nat → Nat) (hM : Mat S D) (hC : Cap D) (x y : Nat) (hx : x < 7) (hy : y < 7) : Con l Z yW_longestWith cW_longestWith 7 (some .int) 1 [.ref h, .int (nI x), .int (nI y)] (wW Z h q S) (Fn (some (.int (nI (lwD D x y 6)))) (wW Z h q S)) := by
  refine Con.of (by decide) (Nat.le_of_ble_eq_true rfl) (fun X hX hQ => ?_)
  show G X Z (wW Z h q S) 0 [(0, .ref h), (1, .int (nI x)), (2, .int (nI y))] []
  refine g_iload_n hX dW_longestWith_0 1 rfl ?_
  refine g_callN hX (con_X_isPlace l Z (nI x)) msX_isPlace (fun U H hE => hE.1.2.2.2.2) rfl (by decide) rfl (Nat.le_of_ble_eq_true rfl) dW_longestWith_1 [] rfl rfl (g_fn (ws1 := wW Z h q S) (st1 := [.int (isPlaceS (nI x))]) rfl rfl ?_)
  refine g_if_eq hX 14 dW_longestWith_4 (by decide) (fun c_4 => absurd c_4 (by rw [isPlace_yes hx]; decide)) (fun c_4 => ?_)
  refine g_iload_n hX dW_longestWith_7 2 rfl ?_
  refine g_callN hX (con_X_isPlace l Z (nI y)) msX_isPlace (fun U H hE => hE.1.2.2.2.2) rfl (by decide) rfl (Nat.le_of_ble_eq_true rfl) dW_longestWith_8 [] rfl rfl (g_fn (ws1 := wW Z h q S) (st1 := [.int (isPlaceS (nI y))]) rfl rfl ?_)
  refine g_if_ne hX 17 dW_longestWith_11 (by decide) (fun c_11 => ?_) (fun c_11 => absurd c_11 (by rw [isPlace_yes hy]; decide))
  refine g_iconst (v := 0) hX dW_longestWith_17 (by decide) ?_
  refine g_istore_n (lv1 := [(0, .ref h), (1, .int (nI x)), (2, .int (nI y)), (3, .int 0)]) hX dW_longestWith_18 (by decide) [1, 2, 3, 0] rfl ?_
  refine g_iconst (v := 0) hX dW_longestWith_19 (by decide) ?_
  refine g_istore (lv1 := [(0, .ref h), (1, .int (nI x)), (2, .int (nI y)), (3, .int 0), (4, .int 0)]) hX dW_longestWith_20 (by decide) [1, 2, 3, 4, 0] rfl ?_
  have hL_22 : ∀ i, i ≤ 6 → G X Z (wW Z h q S) 22 [(0, .ref h), (1, .int (nI x)), (2, .int (nI y)), (3, .int (nI (lwD D x y i))), (4, .int (nI i))] [] := by
    refine loopUp _ 6 ?_ (fun i hi_i ih_i => ?_)
    · skip
      refine g_iload hX dW_longestWith_22 4 rfl ?_
      refine g_bipush (v := 6) hX dW_longestWith_24 (by decide) ?_
      refine g_icmp_ge hX 106 dW_longestWith_26 (by decide) (fun c_26 => ?_) (fun c_26 => absurd (nI_le (a := 6) (b := 6) (Nat.le_refl _) (by omega)) c_26)
      refine g_iload_n hX dW_longestWith_106 3 rfl ?_
      exact r_iret hX hQ dW_longestWith_107 rfl (⟨rfl, rfl⟩)
    · skip
      refine g_iload hX dW_longestWith_22 4 rfl ?_
      refine g_bipush (v := 6) hX dW_longestWith_24 (by decide) ?_
      refine g_icmp_ge hX 106 dW_longestWith_26 (by decide) (fun c_26 => absurd c_26 (nI_ge (a := i) (b := 6) hi_i (by omega))) (fun c_26 => ?_)
      refine g_aload_n hX dW_longestWith_29 0 rfl ?_
      refine g_get hX 0 rfl rfl 0 (by decide) uu_W q_123 rfl rfl dW_longestWith_30 ?_
      refine g_bipush (v := 6) hX dW_longestWith_33 (by decide) ?_
      refine g_aald (v := q 6) hX 8 rfl 6 (by omega) (by decide) (rfl) (if_pos (by omega)) dW_longestWith_35 ?_
      refine g_iload_n hX dW_longestWith_36 1 rfl ?_
      refine g_ald (v := (nI (D 6 x))) hX (1 + 6) (rowatW Z h q S (by omega)) x (by omega) (by decide) (rfl) (hM 6 (by omega) x hx) dW_longestWith_37 ?_
      refine g_iconst (v := 1) hX dW_longestWith_38 (by decide) ?_
      refine g_iadd (z := (nI ((D 6 x) + 1))) hX dW_longestWith_39 (nI_add (D 6 x) 1) ?_
      refine g_aload_n hX dW_longestWith_40 0 rfl ?_
      refine g_get hX 0 rfl rfl 0 (by decide) uu_W q_123 rfl rfl dW_longestWith_41 ?_
      refine g_iload_n hX dW_longestWith_44 2 rfl ?_
      refine g_aald (v := q y) hX 8 rfl y (by omega) (by decide) (rfl) (if_pos (by omega)) dW_longestWith_45 ?_
      refine g_iload hX dW_longestWith_46 4 rfl ?_
      refine g_ald (v := (nI (D y i))) hX (1 + y) (rowatW Z h q S (by omega)) i (by omega) (by decide) (rfl) (hM y hy i (by omega)) dW_longestWith_48 ?_
      refine g_iadd (z := (nI (((D 6 x) + 1) + (D y i)))) hX dW_longestWith_49 (nI_add ((D 6 x) + 1) (D y i)) ?_
      refine g_istore (lv1 := [(0, .ref h), (1, .int (nI x)), (2, .int (nI y)), (3, .int (nI (lwD D x y i))), (4, .int (nI i)), (5, .int (nI (((D 6 x) + 1) + (D y i))))]) hX dW_longestWith_50 (by decide) [1, 2, 3, 4, 5, 0] rfl ?_
      refine g_aload_n hX dW_longestWith_52 0 rfl ?_
      refine g_get hX 0 rfl rfl 0 (by decide) uu_W q_123 rfl rfl dW_longestWith_53 ?_
      refine g_bipush (v := 6) hX dW_longestWith_56 (by decide) ?_
      refine g_aald (v := q 6) hX 8 rfl 6 (by omega) (by decide) (rfl) (if_pos (by omega)) dW_longestWith_58 ?_
      refine g_iload_n hX dW_longestWith_59 2 rfl ?_
      refine g_ald (v := (nI (D 6 y))) hX (1 + 6) (rowatW Z h q S (by omega)) y (by omega) (by decide) (rfl) (hM 6 (by omega) y hy) dW_longestWith_60 ?_
      refine g_iconst (v := 1) hX dW_longestWith_61 (by decide) ?_
      refine g_iadd (z := (nI ((D 6 y) + 1))) hX dW_longestWith_62 (nI_add (D 6 y) 1) ?_
      refine g_aload_n hX dW_longestWith_63 0 rfl ?_
      refine g_get hX 0 rfl rfl 0 (by decide) uu_W q_123 rfl rfl dW_longestWith_64 ?_
      refine g_iload_n hX dW_longestWith_67 1 rfl ?_
      refine g_aald (v := q x) hX 8 rfl x (by omega) (by decide) (rfl) (if_pos (by omega)) dW_longestWith_68 ?_
      refine g_iload hX dW_longestWith_69 4 rfl ?_
      refine g_ald (v := (nI (D x i))) hX (1 + x) (rowatW Z h q S (by omega)) i (by omega) (by decide) (rfl) (hM x hx i (by omega)) dW_longestWith_71 ?_
      refine g_iadd (z := (nI (((D 6 y) + 1) + (D x i)))) hX dW_longestWith_72 (nI_add ((D 6 y) + 1) (D x i)) ?_
      refine g_istore (lv1 := [(0, .ref h), (1, .int (nI x)), (2, .int (nI y)), (3, .int (nI (lwD D x y i))), (4, .int (nI i)), (5, .int (nI (((D 6 x) + 1) + (D y i)))), (6, .int (nI (((D 6 y) + 1) + (D x i))))]) hX dW_longestWith_73 (by decide) [1, 2, 3, 4, 5, 6, 0] rfl ?_
      refine g_iload_n hX dW_longestWith_75 3 rfl ?_
      refine g_aload_n hX dW_longestWith_76 0 rfl ?_
      refine g_get hX 0 rfl rfl 0 (by decide) uu_W q_123 rfl rfl dW_longestWith_77 ?_
      refine g_bipush (v := 6) hX dW_longestWith_80 (by decide) ?_
      refine g_aald (v := q 6) hX 8 rfl 6 (by omega) (by decide) (rfl) (if_pos (by omega)) dW_longestWith_82 ?_
      refine g_iload hX dW_longestWith_83 4 rfl ?_
      refine g_ald (v := (nI (D 6 i))) hX (1 + 6) (rowatW Z h q S (by omega)) i (by omega) (by decide) (rfl) (hM 6 (by omega) i (by omega)) dW_longestWith_85 ?_
      refine g_iload hX dW_longestWith_86 5 rfl ?_
      refine g_iload hX dW_longestWith_88 6 rfl ?_
      refine g_mmin (z := (nI (min (D 6 x + 1 + D y i) (D 6 y + 1 + D x i)))) hX q_420 q_298 q_12 q_299 dW_longestWith_90 (by decide) (Nat.le_of_ble_eq_true rfl) (mn_nI (by have c1 := hC 6 (by omega) x hx; have c2 := hC y hy i (by omega); have c3 := hC 6 (by omega) y hy; have c4 := hC x hx i (by omega); have c5 := hC 6 (by omega) i (by omega); have c6 := lwD_le hC x y i (by omega); omega) (by have c1 := hC 6 (by omega) x hx; have c2 := hC y hy i (by omega); have c3 := hC 6 (by omega) y hy; have c4 := hC x hx i (by omega); have c5 := hC 6 (by omega) i (by omega); have c6 := lwD_le hC x y i (by omega); omega)) ?_
      refine g_mmin (z := (nI (min (D 6 i) (min (D 6 x + 1 + D y i) (D 6 y + 1 + D x i))))) hX q_420 q_298 q_12 q_299 dW_longestWith_93 (by decide) (Nat.le_of_ble_eq_true rfl) (mn_nI (by have c1 := hC 6 (by omega) x hx; have c2 := hC y hy i (by omega); have c3 := hC 6 (by omega) y hy; have c4 := hC x hx i (by omega); have c5 := hC 6 (by omega) i (by omega); have c6 := lwD_le hC x y i (by omega); omega) (by have c1 := hC 6 (by omega) x hx; have c2 := hC y hy i (by omega); have c3 := hC 6 (by omega) y hy; have c4 := hC x hx i (by omega); have c5 := hC 6 (by omega) i (by omega); have c6 := lwD_le hC x y i (by omega); omega)) ?_
      refine g_mmax (z := (nI (lwD D x y (i + 1)))) hX q_461 q_301 q_12 q_302 dW_longestWith_96 (by decide) (Nat.le_of_ble_eq_true rfl) (mx_nI (by have c1 := hC 6 (by omega) x hx; have c2 := hC y hy i (by omega); have c3 := hC 6 (by omega) y hy; have c4 := hC x hx i (by omega); have c5 := hC 6 (by omega) i (by omega); have c6 := lwD_le hC x y i (by omega); omega) (by have c1 := hC 6 (by omega) x hx; have c2 := hC y hy i (by omega); have c3 := hC 6 (by omega) y hy; have c4 := hC x hx i (by omega); have c5 := hC 6 (by omega) i (by omega); have c6 := lwD_le hC x y i (by omega); omega)) ?_
      refine g_istore_n (lv1 := [(0, .ref h), (1, .int (nI x)), (2, .int (nI y)), (3, .int (nI (lwD D x y (i + 1)))), (4, .int (nI i)), (5, .int (nI (((D 6 x) + 1) + (D y i)))), (6, .int (nI (((D 6 y) + 1) + (D x i))))]) hX dW_longestWith_99 (by decide) [1, 2, 3, 0, 4, 5, 6] rfl ?_
      refine g_iinc (v := (nI (i + 1))) (lv1 := [(0, .ref h), (1, .int (nI x)), (2, .int (nI y)), (3, .int (nI (lwD D x y (i + 1)))), (4, .int (nI (i + 1))), (5, .int (nI (((D 6 x) + 1) + (D y i)))), (6, .int (nI (((D 6 y) + 1) + (D x i))))]) hX dW_longestWith_100 4 rfl (inc_nat _) (by decide) [1, 2, 3, 4, 0, 5, 6] rfl ?_
      refine g_goto hX 22 dW_longestWith_103 (by decide) ?_
      refine g_lv (lv1 := [(0, .ref h), (1, .int (nI x)), (2, .int (nI y)), (3, .int (nI (lwD D x y (i + 1)))), (4, .int (nI (i + 1)))]) [0, 1, 2, 3, 4] rfl ?_
      exact ih_i
  exact hL_22 0 (Nat.zero_le _)
