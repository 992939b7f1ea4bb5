/-! the Model: letters -/
/-- the letters, as the class has them -/
abbrev TM (S : St) : St := fun _ => S 13
/-- what is read: the values, the place -/
def rdS (S : St) (f : Nat → Int32) (a : Nat) : St := sw (sr S 14 f) 12 5 (nI a)
theorem rdS_row (S : St) (f : Nat → Int32) (a : Nat) {k : Nat} (h12 : k ≠ 12) (h14 : k ≠ 14) : rdS S f a k = S k := by
  unfold rdS
  rw [sw_ne _ _ _ h12, sr_ne _ _ h14]
theorem rdS_14 (S : St) (f : Nat → Int32) (a : Nat) : rdS S f a 14 = f := by
  unfold rdS
  rw [sw_ne _ _ _ (by decide), sr_eq]
theorem rdS_at (S : St) (f : Nat → Int32) (a : Nat) : rdS S f a 12 5 = nI a := by
  unfold rdS
  rw [swv, if_pos ⟨rfl, rfl⟩]
theorem rdS_12 (S : St) (f : Nat → Int32) (a : Nat) {j : Nat} (h : j ≠ 5) : rdS S f a 12 j = S 12 j := by
  unfold rdS
  rw [swv, if_neg (fun q => h q.2), sr_ne _ _ (by decide)]
theorem rdS_goAt (S : St) (f : Nat → Int32) (a b : Nat) : sw (rdS S f a) 12 5 (nI b) = rdS S f b := by
  apply st_ext
  intro k j
  unfold rdS
  rw [swv, swv, swv]
  by_cases e : k = 12 ∧ j = 5
  · rw [if_pos e, if_pos e]
  · rw [if_neg e, if_neg e, if_neg e]
theorem rdS_val (S : St) (f : Nat → Int32) (a i : Nat) (v : Int32) : sw (rdS S f a) 14 i v = rdS S (upd f i v) a := by
  apply st_ext
  intro k j
  by_cases e : k = 14
  · subst e
    rw [rdS_14, sw_eq, rdS_14]
  · rw [sw_ne _ _ _ e]
    unfold rdS
    rw [swv, swv]
    split
    · rfl
    · rw [sr_ne _ _ e, sr_ne _ _ e]
theorem rdS_other (S : St) (f : Nat → Int32) (a : Nat) {k j : Nat} (v : Int32) (h14 : k ≠ 14) (h : ¬ (k = 12 ∧ j = 5)) : sw (rdS S f a) k j v = rdS (sw S k j v) f a := by
  apply st_ext
  intro k2 j2
  unfold rdS
  rw [swv, swv, swv]
  by_cases e : k2 = k ∧ j2 = j
  · rw [if_pos e, if_neg (by omega), sr_ne _ _ (by omega), swv, if_pos e]
  · rw [if_neg e]
    by_cases e2 : k2 = 12 ∧ j2 = 5
    · rw [if_pos e2, if_pos e2]
    · rw [if_neg e2, if_neg e2]
      by_cases e3 : k2 = 14
      · subst e3
        rw [sr_eq, sr_eq]
      · rw [sr_ne _ _ e3, sr_ne _ _ e3, swv, if_neg e]
/-- the sign there is a digit -/
def isd (T : St) (nT a : Nat) : Int32 := if sg T nT a < 48 then 0 else if 57 < sg T nT a then 0 else 1
theorem isd_yes {T : St} {nT a : Nat} (h : ¬ isd T nT a = 0) : ∃ d, d ≤ 9 ∧ dg T nT a = nI d ∧ sg T nT a = nI (d + 48) ∧ a < nT := by
  unfold isd at h
  by_cases h1 : sg T nT a < 48
  · rw [if_pos h1] at h
    exact absurd rfl h
  · rw [if_neg h1] at h
    by_cases h2 : 57 < sg T nT a
    · rw [if_pos h2] at h
      exact absurd rfl h
    · obtain ⟨j, h4, h5, e⟩ := mins_of (a := 48) (b := 57) (na := 48) (nb := 57) rfl rfl (by decide) (by decide) (Int32.not_lt.mp h1) h2
      refine ⟨j - 48, by omega, ?_, by rw [show j - 48 + 48 = j by omega]; exact e, ?_⟩
      · unfold dg
        rw [if_neg h1, if_neg h2, e]
        exact pk_sub (a := j) (b := 48) (by omega)
      · apply Nat.lt_of_not_le
        intro q
        have e1 : sg T nT a = -1 := if_pos q
        rw [e1] at h1
        exact h1 (by decide)
theorem isd_no {T : St} {nT a : Nat} (h : isd T nT a = 0) : dg T nT a = -1 := by
  unfold isd at h
  unfold dg
  by_cases h1 : sg T nT a < 48
  · rw [if_pos h1]
  · rw [if_neg h1] at h ⊢
    by_cases h2 : 57 < sg T nT a
    · rw [if_pos h2]
    · rw [if_neg h2] at h
      exact absurd h (by decide)
theorem isd_of {T : St} {nT a : Nat} (h : 0 ≤ dg T nT a) : ¬ isd T nT a = 0 := fun q => by
  rw [isd_no q] at h
  exact absurd h (by decide)
theorem isd_01 (T : St) (nT a : Nat) : isd T nT a = 0 ∨ isd T nT a = 1 := by unfold isd; repeat' first | exact Or.inl rfl | exact Or.inr rfl | apply ite01
/-- the value of so many digits -/
def vl (T : St) (nT a : Nat) : Nat → Int32
  | 0 => 0
  | n + 1 => 10 * vl T nT a n + dg T nT (a + n)
def ND (T : St) (nT a m n x : Nat) : Prop := 1 ≤ n ∧ n ≤ m ∧ (∀ j, j < n → 0 ≤ dg T nT (a + j)) ∧ (n < m → dg T nT (a + n) < 0) ∧ x < 10 ^ n ∧ vl T nT a n = nI x ∧ a + n ≤ nT
def NB (T : St) (nT a n x : Nat) : Prop := (∀ j, j < n → 0 ≤ dg T nT (a + j)) ∧ x < 10 ^ n ∧ vl T nT a n = nI x ∧ a + n ≤ nT
def isP (Z : ZZ) (h : Nat) (q : Nat → Nat) (S : St) (f : Nat → Int32) (nT a : Nat) (s : Int32) : Option Value → va_W → Prop := fun v ws => (v = some (.int 1) ∧ (sg (TM S) nT a = s ∧ a < nT) ∧ ws = wM Z h q (rdS S f (a + 1))) ∨ (v = some (.int 0) ∧ ¬ sg (TM S) nT a = s ∧ ws = wM Z h q (rdS S f a))
def nuP (Z : ZZ) (h : Nat) (q : Nat → Nat) (S : St) (f : Nat → Int32) (nT a i m : Nat) : Option Value → va_W → Prop := fun v ws => (v = some (.int 1) ∧ ∃ n x, ND (TM S) nT a m n x ∧ ws = wM Z h q (rdS S (upd f i (nI x)) (a + n))) ∨ (v = some (.int 0) ∧ dg (TM S) nT a < 0 ∧ ws = wM Z h q (rdS S f a))
theorem is_lt {nT a : Nat} (ha : a ≤ nT ∧ nT ≤ 96) (h : ¬ nI a = nI nT) : a < nT := by
  have : a ≠ nT := fun q => h (by rw [q])
  omega
theorem is_eq {S : St} {nT a : Nat} {s : Int32} (ha : a ≤ nT ∧ nT ≤ 96) (h : ¬ nI a = nI nT) (h2 : S 13 a = s) : sg (TM S) nT a = s ∧ a < nT := ⟨by
  unfold sg
  have := is_lt ha h
  rw [if_neg (by omega)]
  exact h2, is_lt ha h⟩
theorem is_ne {S : St} {nT a : Nat} {s : Int32} (ha : a ≤ nT ∧ nT ≤ 96) (h : ¬ nI a = nI nT) (h2 : ¬ S 13 a = s) : ¬ sg (TM S) nT a = s := by
  unfold sg
  have := is_lt ha h
  rw [if_neg (by omega)]
  exact h2
theorem is_end {S : St} {nT a : Nat} {s : Int32} (ha : a ≤ nT ∧ nT ≤ 96) (hs : ¬ s = -1) (h : nI a = nI nT) : ¬ sg (TM S) nT a = s := by
  rw [nI_eq (by omega) (by omega)] at h
  unfold sg
  rw [if_pos (by omega)]
  exact fun q => hs q.symm
theorem ten_lt {x d n : Nat} (hx : x < 10 ^ n) (hd : d ≤ 9) : 10 * x + d < 10 ^ (n + 1) := by
  rw [Nat.pow_succ]
  omega
theorem NB.step {T : St} {nT a n x d : Nat} (h : NB T nT a n x) (hd : d ≤ 9) (e : dg T nT (a + n) = nI d) (hl : a + n < nT) : NB T nT a (n + 1) (10 * x + d) := by
  refine ⟨fun j hj => ?_, ten_lt h.2.1 hd, ?_, by omega⟩
  · by_cases q : j = n
    · rw [q, e]
      exact nI_pos' (by omega)
    · exact h.1 j (by omega)
  · rw [vl, h.2.2.1, e, show (10 : Int32) = nI 10 from rfl, pk_mul, nI_add]
theorem NB.full {T : St} {nT a n x : Nat} (h : NB T nT a n x) (h1 : 1 ≤ n) : ND T nT a n n x := ⟨h1, Nat.le_refl _, h.1, fun q => absurd q (Nat.lt_irrefl _), h.2.1, h.2.2.1, h.2.2.2⟩
theorem NB.part {T : St} {nT a n m x : Nat} (h : NB T nT a n x) (h1 : 1 ≤ n) (hm : n ≤ m) (hz : isd T nT (a + n) = 0) : ND T nT a m n x := ⟨h1, hm, h.1, fun _ => by rw [isd_no hz]; decide, h.2.1, h.2.2.1, h.2.2.2⟩
theorem nb_v {T : St} {nT a n x : Nat} (h : NB T nT a n x) {d : Nat} (e : sg T nT (a + n) = nI (d + 48)) : nI (10 * x) + sg T nT (a + n) - 48 = nI (10 * x + d) := by
  rw [e, nI_add, show 10 * x + (d + 48) = (10 * x + d) + 48 by omega]
  exact pk_sub (a := 10 * x + d + 48) (b := 48) (by omega)
theorem upd_upd (f : Nat → Int32) (i : Nat) (a b : Int32) : upd (upd f i a) i b = upd f i b := by
  funext j
  unfold upd
  split <;> rfl
theorem nb_1 {T : St} {nT a n : Nat} (hz : n = 0 → ¬ isd T nT a = 0) (h : isd T nT (a + n) = 0) : 1 ≤ n := by
  rcases Nat.eq_zero_or_pos n with e | e
  · subst e
    exact absurd h (hz rfl)
  · exact e
set_option maxHeartbeats 4000000 in
set_option maxRecDepth 20000 in
theorem con_M_is (l : Launch) (Z : ZZ) (h : Nat) (q : Nat → Nat) (S : St) (f : Nat → Int32) (a : Nat) (s : Int32) (hs : ¬ s = -1) (nT : Nat) (hN : S 12 4 = nI nT) (hN96 : nT ≤ 96) (hNa : a ≤ nT ∧ nT ≤ 96) : Con l Z yM_is cM_is 2 (some .boolean) 0 [.ref h, .int s] (wM Z h q (rdS S f a)) (isP Z h q S f nT a s) := by
  refine Con.of (by decide) (Nat.le_of_ble_eq_true rfl) (fun X hX hQ => ?_)
  show G X Z (wM Z h q (rdS S f a)) 0 [(0, .ref h), (1, .int s)] []
  refine g_aload_n hX dM_is_0 0 rfl ?_
  refine g_get hX 0 rfl rfl 18 (by decide) uu_M q_602 rfl rfl dM_is_1 ?_
  refine g_top (y := (nI a)) (by first | exact rdS_at _ _ _ | skip) ?_
  refine g_aload_n hX dM_is_4 0 rfl ?_
  refine g_get hX 0 rfl rfl 16 (by decide) uu_M q_600 rfl rfl dM_is_5 ?_
  refine g_top (y := (nI nT)) ((rdS_12 _ _ _ (by decide)).trans hN) ?_
  refine g_icmp_eq hX 24 dM_is_8 (by decide) (fun c_8 => ?_) (fun c_8 => ?_)
  · refine g_iconst (v := 0) hX dM_is_24 (by decide) ?_
    exact r_zret hX hQ (rfl) dM_is_25 keysM (Or.inr ⟨rfl, is_end hNa hs c_8, rfl⟩)
  · refine g_aload_n hX dM_is_11 0 rfl ?_
    refine g_get hX 0 rfl rfl 17 (by decide) uu_M q_601 rfl rfl dM_is_12 ?_
    refine g_aload_n hX dM_is_15 0 rfl ?_
    refine g_get hX 0 rfl rfl 18 (by decide) uu_M q_602 rfl rfl dM_is_16 ?_
    refine g_top (y := (nI a)) (by first | exact rdS_at _ _ _ | skip) ?_
    refine g_ald (v := (S 13 a)) hX 13 rfl a (by have := is_lt hNa c_8; omega) (by decide) (rfl) (congrFun (rdS_row S f a (by decide) (by decide)) a) dM_is_19 ?_
    refine g_iload_n hX dM_is_20 1 rfl ?_
    refine g_icmp_eq hX 26 dM_is_21 (by decide) (fun c_21 => ?_) (fun c_21 => ?_)
    · refine g_aload_n hX dM_is_26 0 rfl ?_
      refine g_dup hX dM_is_27 rfl ?_
      refine g_get hX 0 rfl rfl 18 (by decide) uu_M q_602 rfl rfl dM_is_28 ?_
      refine g_top (y := (nI a)) (by first | exact rdS_at _ _ _ | skip) ?_
      refine g_iconst (v := 1) hX dM_is_31 (by decide) ?_
      refine g_iadd (z := (nI (a + 1))) hX dM_is_32 (nI_add a 1) ?_
      refine g_put (ws1 := wM Z h q (sw (rdS S f a) 12 5 (nI (a + 1)))) hX 0 rfl rfl 18 (by decide) uu_M tyF_M tyF_M_ok nmF_M q_602 rfl rfl rfl rfl rfl (Nat.le_of_ble_eq_true rfl) dM_is_33 (fldM_S_12_5 Z h q (rdS S f a) (nI (a + 1))) ?_
      refine g_iconst (v := 1) hX dM_is_36 (by decide) ?_
      exact r_zret hX hQ (rfl) dM_is_37 keysM (Or.inl ⟨rfl, is_eq hNa c_8 c_21, congrArg (wM Z h q) (rdS_goAt S f a (a + 1))⟩)
    · refine g_iconst (v := 0) hX dM_is_24 (by decide) ?_
      exact r_zret hX hQ (rfl) dM_is_25 keysM (Or.inr ⟨rfl, is_ne hNa c_8 c_21, rfl⟩)
set_option maxHeartbeats 4000000 in
set_option maxRecDepth 20000 in
theorem con_M_isDigit (l : Launch) (Z : ZZ) (h : Nat) (q : Nat → Nat) (S : St) (f : Nat → Int32) (a : Nat) (nT : Nat) (hN : S 12 4 = nI nT) (hN96 : nT ≤ 96) (hNa : a ≤ nT) : Con l Z yM_isDigit cM_isDigit 1 (some .boolean) 0 [.ref h] (wM Z h q (rdS S f a)) (Fn (some (.int (isd (TM S) nT a))) (wM Z h q (rdS S f a))) := by
  refine Con.of (by decide) (Nat.le_of_ble_eq_true rfl) (fun X hX hQ => ?_)
  show G X Z (wM Z h q (rdS S f a)) 0 [(0, .ref h)] []
  refine g_aload_n hX dM_isDigit_0 0 rfl ?_
  refine g_get hX 0 rfl rfl 18 (by decide) uu_M q_602 rfl rfl dM_isDigit_1 ?_
  refine g_top (y := (nI a)) (by first | exact rdS_at _ _ _ | skip) ?_
  refine g_aload_n hX dM_isDigit_4 0 rfl ?_
  refine g_get hX 0 rfl rfl 16 (by decide) uu_M q_600 rfl rfl dM_isDigit_5 ?_
  refine g_top (y := (nI nT)) ((rdS_12 _ _ _ (by decide)).trans hN) ?_
  refine g_icmp_ge hX 43 dM_isDigit_8 (by decide) (fun c_8 => ?_) (fun c_8 => ?_)
  · refine g_iconst (v := 0) hX dM_isDigit_43 (by decide) ?_
    exact r_zret hX hQ (rfl) dM_isDigit_44 keysM (⟨by rw [isd, sg_out (S := TM S) hN96 (by omega) c_8]; rfl, rfl⟩)
  · refine g_aload_n hX dM_isDigit_11 0 rfl ?_
    refine g_get hX 0 rfl rfl 17 (by decide) uu_M q_601 rfl rfl dM_isDigit_12 ?_
    refine g_aload_n hX dM_isDigit_15 0 rfl ?_
    refine g_get hX 0 rfl rfl 18 (by decide) uu_M q_602 rfl rfl dM_isDigit_16 ?_
    refine g_top (y := (nI a)) (by first | exact rdS_at _ _ _ | skip) ?_
    refine g_ald (v := (S 13 a)) hX 13 rfl a (by have := lt_of_n hN96 (by omega) c_8; omega) (by decide) (rfl) (congrFun (rdS_row S f a (by decide) (by decide)) a) dM_isDigit_19 ?_
    refine g_bipush (v := 48) hX dM_isDigit_20 (by decide) ?_
    refine g_icmp_lt hX 43 dM_isDigit_22 (by decide) (fun c_22 => ?_) (fun c_22 => ?_)
    · refine g_iconst (v := 0) hX dM_isDigit_43 (by decide) ?_
      exact r_zret hX hQ (rfl) dM_isDigit_44 keysM (⟨by rw [isd, sg_in (S := TM S) hN96 (by omega) c_8]; simp [TM, c_22], rfl⟩)
    · refine g_aload_n hX dM_isDigit_25 0 rfl ?_
      refine g_get hX 0 rfl rfl 17 (by decide) uu_M q_601 rfl rfl dM_isDigit_26 ?_
      refine g_aload_n hX dM_isDigit_29 0 rfl ?_
      refine g_get hX 0 rfl rfl 18 (by decide) uu_M q_602 rfl rfl dM_isDigit_30 ?_
      refine g_top (y := (nI a)) (by first | exact rdS_at _ _ _ | skip) ?_
      refine g_ald (v := (S 13 a)) hX 13 rfl a (by have := lt_of_n hN96 (by omega) c_8; omega) (by decide) (rfl) (congrFun (rdS_row S f a (by decide) (by decide)) a) dM_isDigit_33 ?_
      refine g_bipush (v := 57) hX dM_isDigit_34 (by decide) ?_
      refine g_icmp_gt hX 43 dM_isDigit_36 (by decide) (fun c_36 => ?_) (fun c_36 => ?_)
      · refine g_iconst (v := 0) hX dM_isDigit_43 (by decide) ?_
        exact r_zret hX hQ (rfl) dM_isDigit_44 keysM (⟨by rw [isd, sg_in (S := TM S) hN96 (by omega) c_8]; simp [TM, c_22, c_36], rfl⟩)
      · refine g_iconst (v := 1) hX dM_isDigit_39 (by decide) ?_
        refine g_goto hX 44 dM_isDigit_40 (by decide) ?_
        exact r_zret hX hQ (rfl) dM_isDigit_44 keysM (⟨by rw [isd, sg_in (S := TM S) hN96 (by omega) c_8]; simp [TM, c_22, c_36], rfl⟩)
set_option maxHeartbeats 4000000 in
set_option maxRecDepth 20000 in
theorem con_M_number (l : Launch) (Z : ZZ) (h : Nat) (q : Nat → Nat) (S : St) (f : Nat → Int32) (a : Nat) (i mm : Nat) (hi : i < 4) (hm1 : 1 ≤ mm) (hm3 : mm ≤ 3) (nT : Nat) (hN : S 12 4 = nI nT) (hN96 : nT ≤ 96) (hNa : a ≤ nT) : Con l Z yM_number cM_number 4 (some .boolean) 1 [.ref h, .int (nI i), .int (nI mm)] (wM Z h q (rdS S f a)) (nuP Z h q S f nT a i mm) := by
  refine Con.of (by decide) (Nat.le_of_ble_eq_true rfl) (fun X hX hQ => ?_)
  show G X Z (wM Z h q (rdS S f a)) 0 [(0, .ref h), (1, .int (nI i)), (2, .int (nI mm))] []
  refine g_aload_n hX dM_number_0 0 rfl ?_
  refine g_callV hX (con_M_isDigit l Z h q S f a nT hN hN96 hNa) mvM_isDigit q_696 rfl (by decide) 0 rfl rfl rfl (Nat.le_of_ble_eq_true rfl) dM_number_1 [0, 1, 2, 3, 4, 5, 6, 7, 8, 9, 10, 11, 12, 13, 14, 15, 16, 17, 18, 19, 20, 21] rfl (subM_all Z h q (rdS S f a)) (g_fn (ws1 := wM Z h q (rdS S f a)) (st1 := [.int (isd (TM S) nT a)]) (putM_all Z h q (rdS S f a) (rdS S f a)) rfl ?_)
  refine g_if_ne hX 9 dM_number_4 (by decide) (fun c_4 => ?_) (fun c_4 => ?_)
  · refine g_aload_n hX dM_number_9 0 rfl ?_
    refine g_get hX 0 rfl rfl 19 (by decide) uu_M q_603 rfl rfl dM_number_10 ?_
    refine g_iload_n hX dM_number_13 1 rfl ?_
    refine g_iconst (v := 0) hX dM_number_14 (by decide) ?_
    refine g_ast (ws1 := wM Z h q (sw (rdS S f a) 14 i 0)) hX 14 rfl i (hi) (by decide) (rfl) dM_number_15 (setM_S_14 Z h q (rdS S f a) i 0) ?_
    refine g_eq (ws1 := wM Z h q (rdS S (upd f i (nI 0)) (a + 0))) (congrArg (wM Z h q) (rdS_val S f a i 0)) rfl rfl ?_
    refine g_iconst (v := 0) hX dM_number_16 (by decide) ?_
    refine g_istore_n (lv1 := [(0, .ref h), (1, .int (nI i)), (2, .int (nI mm)), (3, .int 0)]) hX dM_number_17 (by decide) [1, 2, 3, 0] rfl ?_
    have hL_18 : ∀ n0, n0 ≤ mm → ∀ x0, NB (TM S) nT a n0 x0 → (n0 = 0 → ¬ isd (TM S) nT a = 0) → G X Z (wM Z h q (rdS S (upd f i (nI x0)) (a + n0))) 18 [(0, .ref h), (1, .int (nI i)), (2, .int (nI mm)), (3, .int (nI n0))] [] := by
      refine loopUp _ mm ?_ (fun n0 hi_n0 ih_n0 => ?_)
      · intro x0 hq_0 hz_0
        refine g_iload_n hX dM_number_18 3 rfl ?_
        refine g_iload_n hX dM_number_19 2 rfl ?_
        refine g_icmp_ge hX 71 dM_number_20 (by decide) (fun c_20 => ?_) (fun c_20 => absurd (nI_le (a := mm) (b := mm) (Nat.le_refl _) (by omega)) c_20)
        refine g_iconst (v := 1) hX dM_number_71 (by decide) ?_
        exact r_zret hX hQ (rfl) dM_number_72 keysM (Or.inl ⟨rfl, mm, x0, hq_0.full hm1, rfl⟩)
      · intro x0 hq_0 hz_0
        have hq_n0 := And.intro hq_0 hz_0
        refine g_iload_n hX dM_number_18 3 rfl ?_
        refine g_iload_n hX dM_number_19 2 rfl ?_
        refine g_icmp_ge hX 71 dM_number_20 (by decide) (fun c_20 => absurd c_20 (nI_ge (a := n0) (b := mm) hi_n0 (by omega))) (fun c_20 => ?_)
        refine g_aload_n hX dM_number_23 0 rfl ?_
        refine g_callV hX (con_M_isDigit l Z h q S (upd f i (nI x0)) (a + n0) nT hN hN96 hq_0.2.2.2) mvM_isDigit q_696 rfl (by decide) 0 rfl rfl rfl (Nat.le_of_ble_eq_true rfl) dM_number_24 [0, 1, 2, 3, 4, 5, 6, 7, 8, 9, 10, 11, 12, 13, 14, 15, 16, 17, 18, 19, 20, 21] rfl (subM_all Z h q (rdS S (upd f i (nI x0)) (a + n0))) (g_fn (ws1 := wM Z h q (rdS S (upd f i (nI x0)) (a + n0))) (st1 := [.int (isd (TM S) nT (a + n0))]) (putM_all Z h q (rdS S (upd f i (nI x0)) (a + n0)) (rdS S (upd f i (nI x0)) (a + n0))) rfl ?_)
        refine g_if_eq hX 71 dM_number_27 (by decide) (fun c_27 => ?_) (fun c_27 => ?_)
        · refine g_iconst (v := 1) hX dM_number_71 (by decide) ?_
          exact r_zret hX hQ (rfl) dM_number_72 keysM (Or.inl ⟨rfl, n0, x0, hq_0.part (nb_1 hz_0 c_27) (Nat.le_of_lt hi_n0) c_27, rfl⟩)
        · obtain ⟨d0, hd0, ed0, es0, hl0⟩ := isd_yes c_27
          refine g_aload_n hX dM_number_30 0 rfl ?_
          refine g_get hX 0 rfl rfl 19 (by decide) uu_M q_603 rfl rfl dM_number_31 ?_
          refine g_iload_n hX dM_number_34 1 rfl ?_
          refine g_bipush (v := 10) hX dM_number_35 (by decide) ?_
          refine g_aload_n hX dM_number_37 0 rfl ?_
          refine g_get hX 0 rfl rfl 19 (by decide) uu_M q_603 rfl rfl dM_number_38 ?_
          refine g_iload_n hX dM_number_41 1 rfl ?_
          refine g_ald (v := (nI x0)) hX 14 rfl i (hi) (by decide) (rfl) (by rw [rdS_14]; exact if_pos rfl) dM_number_42 ?_
          refine g_imul (z := (nI (10 * x0))) hX dM_number_43 (pk_mul 10 x0) ?_
          refine g_aload_n hX dM_number_44 0 rfl ?_
          refine g_get hX 0 rfl rfl 17 (by decide) uu_M q_601 rfl rfl dM_number_45 ?_
          refine g_aload_n hX dM_number_48 0 rfl ?_
          refine g_dup hX dM_number_49 rfl ?_
          refine g_get hX 0 rfl rfl 18 (by decide) uu_M q_602 rfl rfl dM_number_50 ?_
          refine g_top (y := (nI (a + n0))) (rdS_at _ _ _) ?_
          refine g_dup_x1 hX dM_number_53 rfl rfl ?_
          refine g_iconst (v := 1) hX dM_number_54 (by decide) ?_
          refine g_iadd (z := (nI ((a + n0) + 1))) hX dM_number_55 (nI_add (a + n0) 1) ?_
          refine g_put (ws1 := wM Z h q (sw (rdS S (upd f i (nI x0)) (a + n0)) 12 5 (nI ((a + n0) + 1)))) hX 0 rfl rfl 18 (by decide) uu_M tyF_M tyF_M_ok nmF_M q_602 rfl rfl rfl rfl rfl (Nat.le_of_ble_eq_true rfl) dM_number_56 (fldM_S_12_5 Z h q (rdS S (upd f i (nI x0)) (a + n0)) (nI ((a + n0) + 1))) ?_
          refine g_ald (v := (sg (TM S) nT (a + n0))) hX 13 rfl (a + n0) (by omega) (by decide) (rfl) (by rw [sw_ne _ _ _ (by decide), rdS_row S _ _ (by decide) (by decide)]; exact (if_neg (by omega)).symm) dM_number_59 ?_
          refine g_iadd (z := ((nI (10 * x0)) + (sg (TM S) nT (a + n0)))) hX dM_number_60 (rfl) ?_
          refine g_bipush (v := 48) hX dM_number_61 (by decide) ?_
          refine g_isub (z := (nI (10 * x0 + d0))) hX dM_number_63 (nb_v hq_0 es0) ?_
          refine g_ast (ws1 := wM Z h q (sw (sw (rdS S (upd f i (nI x0)) (a + n0)) 12 5 (nI ((a + n0) + 1))) 14 i (nI (10 * x0 + d0)))) hX 14 rfl i (hi) (by decide) (rfl) dM_number_64 (setM_S_14 Z h q (sw (rdS S (upd f i (nI x0)) (a + n0)) 12 5 (nI ((a + n0) + 1))) i (nI (10 * x0 + d0))) ?_
          refine g_iinc (v := (nI (n0 + 1))) (lv1 := [(0, .ref h), (1, .int (nI i)), (2, .int (nI mm)), (3, .int (nI (n0 + 1)))]) hX dM_number_65 3 rfl (inc_nat _) (by decide) [1, 2, 3, 0] rfl ?_
          refine g_goto hX 18 dM_number_68 (by decide) ?_
          refine g_eq (ws1 := wM Z h q (rdS S (upd f i (nI (10 * x0 + d0))) (a + (n0 + 1)))) (congrArg (wM Z h q) ?_) rfl rfl (ih_n0 (10 * x0 + d0) (hq_0.step hd0 ed0 hl0) (fun q => by omega))
          rw [rdS_goAt, rdS_val, upd_upd]; rfl
    exact hL_18 0 (Nat.zero_le _) 0 ⟨fun j hj => absurd hj (Nat.not_lt_zero _), by decide, rfl, by omega⟩ (fun _ => c_4)
  · refine g_iconst (v := 0) hX dM_number_7 (by decide) ?_
    exact r_zret hX hQ (rfl) dM_number_8 keysM (Or.inr ⟨rfl, by rw [isd_no c_4]; decide, rfl⟩)
