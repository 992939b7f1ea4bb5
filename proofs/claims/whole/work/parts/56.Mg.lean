/-! the Model: a statement, as pure facts -/
def fin (T : St) (nT a : Nat) : Int32 := if sg T nT a = 59 then nI (a + 1) else -1 - nI a
theorem dueS_d (T : St) (nT k : Nat) : dueS T nT 35 k = if dg T nT k < 0 then 0 else 1 := if_pos rfl
theorem dueS_o (T : St) (nT k : Nat) : dueS T nT 63 k = if dg T nT k < 0 then 0 else 1 := (if_neg (by decide)).trans (if_pos rfl)
theorem dueS_k (T : St) (nT k : Nat) : dueS T nT 64 k = if kindOfS (sg T nT k) < 0 then 0 else 1 := (if_neg (by decide)).trans ((if_neg (by decide)).trans (if_pos rfl))
theorem dueS_c (T : St) (nT k : Nat) : dueS T nT 44 k = if ¬ sg T nT k = 44 then 0 else 1 := (if_neg (by decide)).trans ((if_neg (by decide)).trans (if_neg (by decide)))
theorem dueS_f (T : St) (nT k : Nat) : dueS T nT 59 k = if ¬ sg T nT k = 59 then 0 else 1 := (if_neg (by decide)).trans ((if_neg (by decide)).trans (if_neg (by decide)))
theorem bs_y {T : St} {nT sh r i k : Nat} (h : ¬ dueS T nT (sch sh i) k = 0) : bsL T nT sh (r + 1) i k = bsL T nT sh r (i + 1) (k + 1) := if_neg h
theorem bs_n {T : St} {nT sh r i k : Nat} (h : dueS T nT (sch sh i) k = 0) (h2 : ¬ sch sh i = 63) : bsL T nT sh (r + 1) i k = -1 - nI k := (if_pos h).trans (if_neg h2)
theorem bs_s {T : St} {nT sh r i k : Nat} (h : dueS T nT (sch sh i) k = 0) (h2 : sch sh i = 63) : bsL T nT sh (r + 1) i k = bsL T nT sh r (i + 1) k := (if_pos h).trans (if_pos h2)
theorem bs_d {T : St} {nT sh r i k : Nat} (hc : sch sh i = 35) (h : 0 ≤ dg T nT k) : bsL T nT sh (r + 1) i k = bsL T nT sh r (i + 1) (k + 1) := bs_y (by rw [hc, dueS_d, if_neg (Int32.not_lt.mpr h)]; decide)
theorem bs_dn {T : St} {nT sh r i k : Nat} (hc : sch sh i = 35) (h : dg T nT k < 0) : bsL T nT sh (r + 1) i k = -1 - nI k := bs_n (by rw [hc, dueS_d, if_pos h]) (by rw [hc]; decide)
theorem bs_o {T : St} {nT sh r i k : Nat} (hc : sch sh i = 63) (h : 0 ≤ dg T nT k) : bsL T nT sh (r + 1) i k = bsL T nT sh r (i + 1) (k + 1) := bs_y (by rw [hc, dueS_o, if_neg (Int32.not_lt.mpr h)]; decide)
theorem bs_on {T : St} {nT sh r i k : Nat} (hc : sch sh i = 63) (h : dg T nT k < 0) : bsL T nT sh (r + 1) i k = bsL T nT sh r (i + 1) k := bs_s (by rw [hc, dueS_o, if_pos h]) hc
theorem bs_k {T : St} {nT sh r i k : Nat} (hc : sch sh i = 64) (h : 0 ≤ kindOfS (sg T nT k)) : bsL T nT sh (r + 1) i k = bsL T nT sh r (i + 1) (k + 1) := bs_y (by rw [hc, dueS_k, if_neg (Int32.not_lt.mpr h)]; decide)
theorem bs_kn {T : St} {nT sh r i k : Nat} (hc : sch sh i = 64) (h : ¬ 0 ≤ kindOfS (sg T nT k)) : bsL T nT sh (r + 1) i k = -1 - nI k := bs_n (by rw [hc, dueS_k, if_pos (Int32.not_le.mp h)]) (by rw [hc]; decide)
theorem bs_c {T : St} {nT sh r i k : Nat} (hc : sch sh i = 44) (h : sg T nT k = 44) : bsL T nT sh (r + 1) i k = bsL T nT sh r (i + 1) (k + 1) := bs_y (by rw [hc, dueS_c, if_neg (fun q => q h)]; decide)
theorem bs_cn {T : St} {nT sh r i k : Nat} (hc : sch sh i = 44) (h : ¬ sg T nT k = 44) : bsL T nT sh (r + 1) i k = -1 - nI k := bs_n (by rw [hc, dueS_c, if_pos h]) (by rw [hc]; decide)
theorem bs_f {T : St} {nT sh i a : Nat} (hc : sch sh i = 59) : bsL T nT sh 1 i a = fin T nT a := by
  unfold fin
  by_cases h : sg T nT a = 59
  · rw [if_pos h]
    exact bs_y (by rw [hc, dueS_f, if_neg (fun q => q h)]; decide)
  · rw [if_neg h]
    exact bs_n (by rw [hc, dueS_f, if_pos h]) (by rw [hc]; decide)
theorem bs_sh {T : St} {nT k : Nat} {c : Int32} (i : Nat) (e : sg T nT k = c) (hs : shp c = i) (h0 : semp i = 0) : bs T nT k = bsL T nT i (sLen.getD i 0) 0 (k + 1) := by
  unfold bs
  rw [e, hs, if_pos h0]
theorem bs_114 {T : St} {nT k : Nat} (e : sg T nT k = 114) : bs T nT k = bsL T nT 0 6 0 (k + 1) := bs_sh 0 e (by decide) (by decide)
theorem bs_107 {T : St} {nT k : Nat} (e : sg T nT k = 107) : bs T nT k = bsL T nT 1 3 0 (k + 1) := bs_sh 1 e (by decide) (by decide)
theorem bs_108 {T : St} {nT k : Nat} (e : sg T nT k = 108) : bs T nT k = bsL T nT 2 5 0 (k + 1) := bs_sh 2 e (by decide) (by decide)
theorem bs_112 {T : St} {nT k : Nat} (e : sg T nT k = 112) : bs T nT k = bsL T nT 3 7 0 (k + 1) := bs_sh 3 e (by decide) (by decide)
theorem bs_115 {T : St} {nT k : Nat} (e : sg T nT k = 115) : bs T nT k = bsL T nT 1 3 0 (k + 1) := bs_sh 1 e (by decide) (by decide)
theorem bs_else {T : St} {nT k : Nat} (h1 : ¬ sg T nT k = 114) (h2 : ¬ sg T nT k = 107) (h3 : ¬ sg T nT k = 108) (h4 : ¬ sg T nT k = 112) (h5 : ¬ sg T nT k = 115) : bs T nT k = -1 - nI k := by
  unfold bs shp
  rw [if_neg h2, if_neg h3, if_neg h4, if_neg h1, if_neg h5]
  exact if_neg (by decide)
theorem zero_ten (x : Int32) : 10 * (0 : Int32) + x = x := by
  rw [show 10 * (0 : Int32) = 0 from rfl, Int32.zero_add]
theorem nd1 {T : St} {nT a n x : Nat} (h : ND T nT a 1 n x) : n = 1 ∧ 0 ≤ dg T nT a ∧ dg T nT a = nI x ∧ x ≤ 9 ∧ a + 1 ≤ nT := by
  obtain ⟨h1, h2, h3, h4, h5, h6, h7⟩ := h
  obtain rfl : n = 1 := by omega
  refine ⟨rfl, h3 0 (by omega), ?_, by omega, h7⟩
  have e : vl T nT a 1 = 10 * 0 + dg T nT a := rfl
  rw [e, zero_ten] at h6
  exact h6
theorem dg_r (T : St) (nT k : Nat) : dg T nT k = -1 ∨ ∃ d, d ≤ 9 ∧ dg T nT k = nI d := by
  rcases isd_01 T nT k with e | e
  · exact Or.inl (isd_no e)
  · obtain ⟨d, h1, h2, _⟩ := isd_yes (T := T) (nT := nT) (a := k) (by rw [e]; decide)
    exact Or.inr ⟨d, h1, h2⟩
theorem nd3 {T : St} {nT a n x : Nat} (h : ND T nT a 3 n x) : nmb T nT a = nI x ∧ x ≤ 999 ∧ bsL T nT 0 4 2 a = fin T nT (a + n) ∧ a + n ≤ nT ∧ 1 ≤ n := by
  obtain ⟨h1, h2, h3, h4, h5, h6, h7⟩ := h
  have e0 : bsL T nT 0 4 2 a = bsL T nT 0 3 3 (a + 1) := bs_d (by decide) (h3 0 (by omega))
  rcases (show n = 1 ∨ n = 2 ∨ n = 3 by omega) with rfl | rfl | rfl
  · have d1 := h4 (by omega)
    have e : vl T nT a 1 = 10 * 0 + dg T nT a := rfl
    rw [e, zero_ten] at h6
    refine ⟨?_, by omega, ?_, h7, h1⟩
    · unfold nmb
      rw [if_pos d1]
      exact h6
    · rw [e0]
      exact (bs_on (by decide) d1).trans ((bs_on (by decide) d1).trans (bs_f (by decide)))
  · have d1 := h3 1 (by omega)
    have d2 := h4 (by omega)
    have e : vl T nT a 2 = 10 * (10 * 0 + dg T nT a) + dg T nT (a + 1) := rfl
    rw [e, zero_ten] at h6
    refine ⟨?_, by omega, ?_, h7, h1⟩
    · unfold nmb
      rw [if_neg (Int32.not_lt.mpr d1), if_pos d2]
      exact h6
    · rw [e0]
      exact (bs_o (by decide) d1).trans ((bs_on (by decide) d2).trans (bs_f (by decide)))
  · have d1 := h3 1 (by omega)
    have d2 := h3 2 (by omega)
    have e : vl T nT a 3 = 10 * (10 * (10 * 0 + dg T nT a) + dg T nT (a + 1)) + dg T nT (a + 2) := rfl
    rw [e, zero_ten] at h6
    refine ⟨?_, by omega, ?_, h7, h1⟩
    · unfold nmb
      rw [if_neg (Int32.not_lt.mpr d1), if_neg (Int32.not_lt.mpr d2)]
      exact h6
    · rw [e0]
      exact (bs_o (by decide) d1).trans ((bs_o (by decide) d2).trans (bs_f (by decide)))
theorem dg_59 {T : St} {nT k : Nat} (h : sg T nT k = 59) : dg T nT k < 0 := by
  unfold dg
  rw [h]
  decide
theorem fin_59 {T : St} {nT a : Nat} (ha : a < 2 ^ 30) (h : 0 ≤ fin T nT a) : sg T nT a = 59 := by
  by_cases e : sg T nT a = 59
  · exact e
  · unfold fin at h
    rw [if_neg e] at h
    have e2 : (-1 - nI a).toInt = -1 - (a : Int) := by
      rw [Int32.toInt_sub, nI_toInt (by omega), show (-1 : Int32).toInt = -1 from by decide, Int.bmod_eq_of_le (by omega) (by omega)]
    rw [Int32.le_iff_toInt_le, e2] at h
    have e0 : (0 : Int32).toInt = 0 := by decide
    omega
theorem nd2 {T : St} {nT a n x : Nat} (h : ND T nT a 2 n x) : x ≤ 99 ∧ bsL T nT 3 3 4 a = fin T nT (a + n) ∧ a + n ≤ nT ∧ 1 ≤ n ∧ (sg T nT (a + n) = 59 → nmb T nT a = nI x) := by
  obtain ⟨h1, h2, h3, h4, h5, h6, h7⟩ := h
  have e0 : bsL T nT 3 3 4 a = bsL T nT 3 2 5 (a + 1) := bs_d (by decide) (h3 0 (by omega))
  rcases (show n = 1 ∨ n = 2 by omega) with rfl | rfl
  · have d1 := h4 (by omega)
    have e : vl T nT a 1 = 10 * 0 + dg T nT a := rfl
    rw [e, zero_ten] at h6
    refine ⟨by omega, ?_, h7, h1, fun _ => ?_⟩
    · rw [e0]
      exact (bs_on (by decide) d1).trans (bs_f (by decide))
    · unfold nmb
      rw [if_pos d1]
      exact h6
  · have d1 := h3 1 (by omega)
    have e : vl T nT a 2 = 10 * (10 * 0 + dg T nT a) + dg T nT (a + 1) := rfl
    rw [e, zero_ten] at h6
    refine ⟨by omega, ?_, h7, h1, fun q => ?_⟩
    · rw [e0]
      exact (bs_o (by decide) d1).trans (bs_f (by decide))
    · unfold nmb
      rw [if_neg (Int32.not_lt.mpr d1), if_pos (dg_59 q)]
      exact h6
theorem gt_n {m x : Nat} (hm : m < 2 ^ 30) (hx : x ≤ 999) : nI m < nI x ↔ m < x := nI_ltI (by omega) (by omega)
theorem okAir_n {x v : Nat} (hx : x ≤ 9) (hv : v ≤ 999) : okAir (nI x) (nI v) = if x ≤ 5 then 1 else 0 := by
  unfold okAir isRoomS
  rw [if_neg (nI_pos (n := x) (by omega)), if_neg (nI_pos (n := v) (by omega)), if_pos (show nI v ≤ 999 from nI_le (b := 999) hv (by omega))]
  by_cases h : x ≤ 5
  · rw [if_pos h, if_neg (show ¬ (6 : Int32) ≤ nI x from nI_ge (a := x) (b := 6) (by omega) (by omega))]
    rfl
  · rw [if_neg h, if_pos (show (6 : Int32) ≤ nI x from nI_le (a := 6) (by omega) (by omega))]
    rfl
theorem okLeak_n {x v : Nat} (hx : x ≤ 9) (hv : v ≤ 9) : okLeak (nI x) (nI v) = if x ≤ 5 then 1 else 0 := by
  unfold okLeak isRoomS
  rw [if_neg (nI_pos (n := x) (by omega)), if_neg (nI_pos (n := v) (by omega)), if_pos (show nI v ≤ 9 from nI_le (b := 9) hv (by omega))]
  by_cases h : x ≤ 5
  · rw [if_pos h, if_neg (show ¬ (6 : Int32) ≤ nI x from nI_ge (a := x) (b := 6) (by omega) (by omega))]
    rfl
  · rw [if_neg h, if_pos (show (6 : Int32) ≤ nI x from nI_le (a := 6) (by omega) (by omega))]
    rfl
theorem plc_n {x : Nat} (hx : x ≤ 9) : isPlaceS (nI x) = if x ≤ 6 then 1 else 0 := by
  unfold isPlaceS
  rw [if_neg (nI_pos (n := x) (by omega))]
  by_cases h : x ≤ 6
  · rw [if_pos h, if_neg (show ¬ (7 : Int32) ≤ nI x from nI_ge (a := x) (b := 7) (by omega) (by omega))]
  · rw [if_neg h, if_pos (show (7 : Int32) ≤ nI x from nI_le (a := 7) (by omega) (by omega))]
theorem lt1_n {x : Nat} (hx : x ≤ 999) : nI x < 1 ↔ x = 0 := by
  show nI x < nI 1 ↔ _
  rw [nI_ltI (by omega) (by omega)]
  omega
theorem le_n {m x : Nat} (hm : m < 2 ^ 30) (hx : x ≤ 999) : nI x ≤ nI m ↔ x ≤ m := nI_leI (by omega) (by omega)
theorem okLock_n {nL x y t c : Nat} (hL : nL ≤ 7) (hx : x ≤ 9) (hy : y ≤ 9) (ht : t ≤ 9) (hc : c ≤ 9) : okLock nL (nI x) (nI y) (nI t) (nI c) = if x ≤ 6 ∧ y ≤ 6 ∧ x ≠ y ∧ 1 ≤ c ∧ nL < 7 then 1 else 0 := by
  unfold okLock
  have a1 : nI x = nI y ↔ x = y := nI_eq (by omega) (by omega)
  have a2 : nI c < 1 ↔ c = 0 := lt1_n (by omega)
  have a3 : nI nL < 7 ↔ nL < 7 := nI_ltI (a := nL) (b := 7) (by omega) (by omega)
  have a4 : ¬ nI t < 0 := nI_pos (n := t) (by omega)
  simp only [plc_n hx, plc_n hy, a1, a2, a3, if_neg a4]
  by_cases h1 : x ≤ 6
  · by_cases h2 : y ≤ 6
    · by_cases h3 : x = y
      · simp [h1, h2, h3]
      · by_cases h4 : c = 0
        · simp [h1, h2, h3, h4]
        · by_cases h5 : nL < 7
          · simp [h1, h2, h3, h4, h5] <;> omega
          · simp [h1, h2, h3, h4, h5]
    · simp [h1, h2]
  · simp [h1]
theorem okPerson_n {nP x f s : Nat} {kd : Int32} (hk : 0 ≤ kd) (hP : nP ≤ 5) (hx : x ≤ 9) (hf : f ≤ 9) (hs : s ≤ 99) : okPerson nP kd (nI x) (nI f) (nI s) = if x ≤ 6 ∧ 1 ≤ f ∧ f ≤ 5 ∧ nP < 5 then 1 else 0 := by
  unfold okPerson
  have a1 : nI f ≤ 5 ↔ f ≤ 5 := nI_leI (a := f) (b := 5) (by omega) (by omega)
  have a2 : nI f < 1 ↔ f = 0 := lt1_n (by omega)
  have a3 : nI nP < 5 ↔ nP < 5 := nI_ltI (a := nP) (b := 5) (by omega) (by omega)
  have a4 : ¬ nI s < 0 := nI_pos (n := s) (by omega)
  simp only [if_neg (Int32.not_lt.mpr hk), plc_n hx, a1, a2, a3, if_neg a4]
  by_cases h1 : x ≤ 6
  · by_cases h2 : f = 0
    · simp [h1, h2]
    · by_cases h3 : f ≤ 5
      · by_cases h4 : nP < 5
        · simp [h1, h2, h3, h4] <;> omega
        · simp [h1, h2, h3, h4]
      · simp [h1, h2, h3]
  · simp [h1]
theorem okSuits_n {f v : Nat} (hf : f ≤ 9) (hv : v ≤ 9) : okSuits (nI f) (nI v) = if 1 ≤ f ∧ f ≤ 5 ∧ v ≤ 5 then 1 else 0 := by
  unfold okSuits
  have a1 : nI v ≤ 5 ↔ v ≤ 5 := nI_leI (a := v) (b := 5) (by omega) (by omega)
  have a2 : nI f < 1 ↔ f = 0 := lt1_n (by omega)
  have a3 : (5 : Int32) < nI f ↔ 5 < f := nI_ltI (a := 5) (b := f) (by omega) (by omega)
  have a4 : ¬ nI v < 0 := nI_pos (n := v) (by omega)
  simp only [a1, a2, a3, if_neg a4]
  by_cases h1 : f = 0
  · simp [h1]
  · by_cases h2 : 5 < f
    · simp [h1, h2] <;> omega
    · by_cases h3 : v ≤ 5
      · simp [h1, h2, h3] <;> omega
      · simp [h1, h2, h3]
theorem wth15 {f : Nat} (hf : f ≤ 9) : wthS (nI f) 1 5 = if 1 ≤ f ∧ f ≤ 5 then 1 else 0 := by
  unfold wthS
  have a2 : nI f < 1 ↔ f = 0 := lt1_n (by omega)
  have a3 : (5 : Int32) < nI f ↔ 5 < f := nI_ltI (a := 5) (b := f) (by omega) (by omega)
  simp only [a2, a3]
  by_cases h1 : f = 0
  · simp [h1]
  · by_cases h2 : 5 < f
    · simp [h1, h2] <;> omega
    · simp [h1, h2] <;> omega
def stmP (Z : ZZ) (h : Nat) (q : Nat → Nat) (S : St) (nT k : Nat) (tl : Int32) : Option Value → va_W → Prop := fun v ws => ∃ f' a', a' ≤ nT ∧ ((v = some (.int (-1)) ∧ bs (TM S) nT k = -1 - nI a' ∧ ws = wM Z h q (rdS S f' a')) ∨ (bs (TM S) nT k = fin (TM S) nT a' ∧ k + 3 ≤ a' ∧ ((tl = 0 ∧ v = some (.int 1) ∧ ws = wM Z h q (rdS S f' a')) ∨ (¬ tl = 0 ∧ v = some (.int (stO (TM S) nT S k)) ∧ ws = wM Z h q (rdS (stS (TM S) nT S k) f' a')))))
theorem stm_no {Z : ZZ} {h : Nat} {q : Nat → Nat} {S : St} {nT k : Nat} {tl : Int32} {f : Nat → Int32} {a : Nat} (ha : a ≤ nT) (hb : bs (TM S) nT k = -1 - nI a) : stmP Z h q S nT k tl (some (.int (-1))) (wM Z h q (rdS S f a)) := ⟨f, a, ha, Or.inl ⟨rfl, hb, rfl⟩⟩
theorem stm_one {Z : ZZ} {h : Nat} {q : Nat → Nat} {S : St} {nT k : Nat} {tl : Int32} {f : Nat → Int32} {a : Nat} (ha : a ≤ nT) (hk : k + 3 ≤ a) (htl : tl = 0) (hb : bs (TM S) nT k = fin (TM S) nT a) : stmP Z h q S nT k tl (some (.int 1)) (wM Z h q (rdS S f a)) := ⟨f, a, ha, Or.inr ⟨hb, hk, Or.inl ⟨htl, rfl, rfl⟩⟩⟩
theorem stm_tell {Z : ZZ} {h : Nat} {q : Nat → Nat} {S S' : St} {nT k : Nat} {tl v : Int32} {f : Nat → Int32} {a : Nat} (ha : a ≤ nT) (hk : k + 3 ≤ a) (htl : ¬ tl = 0) (hb : bs (TM S) nT k = fin (TM S) nT a) (hv : stO (TM S) nT S k = v) (hS : stS (TM S) nT S k = S') : stmP Z h q S nT k tl (some (.int v)) (wM Z h q (rdS S' f a)) := ⟨f, a, ha, Or.inr ⟨hb, hk, Or.inr ⟨htl, by rw [hv], by rw [hS]⟩⟩⟩
theorem st_114 {T S : St} {nT k x v : Nat} (e : sg T nT k = 114) (e1 : dg T nT (k + 1) = nI x) (e2 : nmb T nT (k + 3) = nI v) (hx : x ≤ 9) (hv : v ≤ 999) : stO T nT S k = (if x ≤ 5 then 1 else 0) ∧ stS T nT S k = if x ≤ 5 then sw S 0 x (nI v) else S := by
  have h := okAir_n hx hv
  unfold stO stS
  rw [e, e1, e2]
  constructor
  · rw [if_neg (show ¬ (114 : Int32) = 107 by decide), if_neg (show ¬ (114 : Int32) = 108 by decide), if_neg (show ¬ (114 : Int32) = 112 by decide), if_pos rfl]
    exact h
  · rw [if_neg (show ¬ (114 : Int32) = 107 by decide), if_neg (show ¬ (114 : Int32) = 108 by decide), if_neg (show ¬ (114 : Int32) = 112 by decide), if_pos rfl]
    show tellAirS S (nI x) (nI v) = _
    unfold tellAirS
    rw [h, show cl (nI x) = x from nI_clamp (by omega)]
    by_cases q : x ≤ 5
    · simp [q]
    · simp [q]
theorem st_107 {T S : St} {nT k x v : Nat} (e : sg T nT k = 107) (e1 : dg T nT (k + 1) = nI x) (e2 : dg T nT (k + 2) = nI v) (hx : x ≤ 9) (hv : v ≤ 9) : stO T nT S k = (if x ≤ 5 then 1 else 0) ∧ stS T nT S k = if x ≤ 5 then sw S 1 x (nI v) else S := by
  have h := okLeak_n hx hv
  unfold stO stS
  rw [e, e1, e2]
  constructor
  · rw [if_pos rfl]
    exact h
  · rw [if_pos rfl]
    show tellLeakS S (nI x) (nI v) = _
    unfold tellLeakS
    rw [h, show cl (nI x) = x from nI_clamp (by omega)]
    by_cases q : x ≤ 5
    · simp [q]
    · simp [q]
theorem st_108 {T S : St} {nT k x y t c nL : Nat} (e : sg T nT k = 108) (e1 : dg T nT (k + 1) = nI x) (e2 : dg T nT (k + 2) = nI y) (e3 : dg T nT (k + 3) = nI t) (e4 : dg T nT (k + 4) = nI c) (hx : x ≤ 9) (hy : y ≤ 9) (ht : t ≤ 9) (hc : c ≤ 9) (hL : S 12 0 = nI nL) (hL7 : nL ≤ 7) : stO T nT S k = (if x ≤ 6 ∧ y ≤ 6 ∧ x ≠ y ∧ 1 ≤ c ∧ nL < 7 then 1 else 0) ∧ stS T nT S k = if x ≤ 6 ∧ y ≤ 6 ∧ x ≠ y ∧ 1 ≤ c ∧ nL < 7 then addLock S nL (nI x) (nI y) (nI t) (nI c) else S := by
  have h := okLock_n hL7 hx hy ht hc
  unfold stO stS
  rw [e, e1, e2, e3, e4, hL, show cl (nI nL) = nL from nI_clamp (by omega)]
  constructor
  · rw [if_neg (show ¬ (108 : Int32) = 107 by decide), if_pos rfl]
    exact h
  · rw [if_neg (show ¬ (108 : Int32) = 107 by decide), if_pos rfl]
    show tellLockS S nL (nI x) (nI y) (nI t) (nI c) = _
    unfold tellLockS
    rw [h]
    by_cases q : x ≤ 6 ∧ y ≤ 6 ∧ x ≠ y ∧ 1 ≤ c ∧ nL < 7
    · rw [if_pos q, if_pos q, if_pos rfl]
    · rw [if_neg q, if_neg q, if_neg (by decide)]
theorem st_112 {T S : St} {nT k x f s nP : Nat} (e : sg T nT k = 112) (hk : 0 ≤ kindOfS (sg T nT (k + 1))) (e2 : dg T nT (k + 2) = nI x) (e3 : dg T nT (k + 3) = nI f) (e5 : nmb T nT (k + 5) = nI s) (hx : x ≤ 9) (hf : f ≤ 9) (hs : s ≤ 99) (hP : S 12 1 = nI nP) (hP5 : nP ≤ 5) : stO T nT S k = (if x ≤ 6 ∧ 1 ≤ f ∧ f ≤ 5 ∧ nP < 5 then 1 else 0) ∧ stS T nT S k = if x ≤ 6 ∧ 1 ≤ f ∧ f ≤ 5 ∧ nP < 5 then addPerson S nP (kindOfS (sg T nT (k + 1))) (nI x) (nI f) (nI s) else S := by
  have h := okPerson_n hk hP5 hx hf hs
  unfold stO stS
  rw [e, e2, e3, e5, hP, show cl (nI nP) = nP from nI_clamp (by omega)]
  constructor
  · rw [if_neg (show ¬ (112 : Int32) = 107 by decide), if_neg (show ¬ (112 : Int32) = 108 by decide), if_pos rfl]
    exact h
  · rw [if_neg (show ¬ (112 : Int32) = 107 by decide), if_neg (show ¬ (112 : Int32) = 108 by decide), if_pos rfl]
    show tellPersonS S nP (kindOfS (sg T nT (k + 1))) (nI x) (nI f) (nI s) = _
    unfold tellPersonS
    rw [h]
    by_cases q : x ≤ 6 ∧ 1 ≤ f ∧ f ≤ 5 ∧ nP < 5
    · rw [if_pos q, if_pos q, if_pos rfl]
    · rw [if_neg q, if_neg q, if_neg (by decide)]
theorem st_115 {T S : St} {nT k x v : Nat} (e : sg T nT k = 115) (e1 : dg T nT (k + 1) = nI x) (e2 : dg T nT (k + 2) = nI v) (hx : x ≤ 9) (hv : v ≤ 9) : stO T nT S k = (if 1 ≤ x ∧ x ≤ 5 ∧ v ≤ 5 then 1 else 0) ∧ stS T nT S k = if 1 ≤ x ∧ x ≤ 5 ∧ v ≤ 5 then sw S 11 x (nI v) else S := by
  have h := okSuits_n hx hv
  unfold stO stS
  rw [e, e1, e2]
  constructor
  · rw [if_neg (show ¬ (115 : Int32) = 107 by decide), if_neg (show ¬ (115 : Int32) = 108 by decide), if_neg (show ¬ (115 : Int32) = 112 by decide), if_neg (show ¬ (115 : Int32) = 114 by decide), if_pos rfl]
    exact h
  · rw [if_neg (show ¬ (115 : Int32) = 107 by decide), if_neg (show ¬ (115 : Int32) = 108 by decide), if_neg (show ¬ (115 : Int32) = 112 by decide), if_neg (show ¬ (115 : Int32) = 114 by decide), if_pos rfl]
    show tellSuitsS S (nI x) (nI v) = _
    unfold tellSuitsS
    rw [h, show cl (nI x) = x from nI_clamp (by omega)]
    by_cases q : 1 ≤ x ∧ x ≤ 5 ∧ v ≤ 5
    · rw [if_pos q, if_pos q, if_pos rfl]
    · rw [if_neg q, if_neg q, if_neg (by decide)]
theorem rdS_add (S : St) (f : Nat → Int32) (a n : Nat) (x y t c : Int32) : addLock (rdS S f a) n x y t c = rdS (addLock S n x y t c) f a := by
  unfold addLock
  rw [rdS_other _ _ _ _ (by decide) (by omega), rdS_other _ _ _ _ (by decide) (by omega), rdS_other _ _ _ _ (by decide) (by omega), rdS_other _ _ _ _ (by decide) (by omega), rdS_other _ _ _ _ (by decide) (by omega), rdS_other _ _ _ _ (by decide) (by omega)]
theorem pe_comm (X : St) {n : Nat} (a b : Int32) : sw (sw X 12 1 a) 10 n b = sw (sw X 10 n b) 12 1 a := by
  apply st_ext
  intro k j
  simp only [swv]
  by_cases e : k = 10 ∧ j = n
  · rw [if_pos e, if_neg (by omega), if_pos e]
  · rw [if_neg e]
    split
    · rfl
    · rfl
theorem rdS_per (S : St) (f : Nat → Int32) (a n : Nat) (x y t c : Int32) : sw (sw (sw (sw (sw (rdS S f a) 7 n x) 8 n y) 9 n t) 12 1 (nI (n + 1))) 10 n c = rdS (addPerson S n x y t c) f a := by
  rw [pe_comm]
  unfold addPerson
  rw [rdS_other _ _ _ _ (by decide) (by omega), rdS_other _ _ _ _ (by decide) (by omega), rdS_other _ _ _ _ (by decide) (by omega), rdS_other _ _ _ _ (by decide) (by omega), rdS_other _ _ _ _ (by decide) (by omega)]
theorem kd_out {T : St} {nT k : Nat} (hT96 : nT ≤ 96) (hk : k < 2 ^ 31) (h : nI nT ≤ nI k) : (-1 : Int32) = kindOfS (sg T nT k) := by
  rw [sg_out hT96 hk h]
  decide
theorem kd_zero {S : St} {nT k b : Nat} (hT96 : nT ≤ 96) (hk : k < 2 ^ 31) (h : ¬ nI nT ≤ nI k) (hb : b < 256) (e : S 13 k = nI b) (h0 : nI b ≤ 0) : (-1 : Int32) = kindOfS (sg (TM S) nT k) := by
  have h2 : nI b ≤ nI 0 := h0
  rw [nI_leI (by omega) (by omega)] at h2
  rw [sg_in (S := TM S) hT96 hk h, show TM S 0 k = nI b from e, show b = 0 by omega]
  decide
theorem kd_in {S : St} {nT k b : Nat} (hT96 : nT ≤ 96) (hk : k < 2 ^ 31) (h : ¬ nI nT ≤ nI k) (e : S 13 k = nI b) : kindOfS (nI b) = kindOfS (sg (TM S) nT k) := by
  rw [sg_in (S := TM S) hT96 hk h, show TM S 0 k = nI b from e]
theorem ite_n {p : Prop} [Decidable p] (h : (if p then (1 : Int32) else 0) = 0) : ¬ p := fun q => by
  rw [if_pos q] at h
  exact absurd h (by decide)
theorem ite_y {p : Prop} [Decidable p] (h : ¬ (if p then (1 : Int32) else 0) = 0) : p := by
  by_cases q : p
  · exact q
  · exact absurd (if_neg q) h
theorem kd_lt {T : St} {nT k : Nat} (h : 0 ≤ kindOfS (sg T nT (k + 1))) : k + 2 ≤ nT := by
  apply Nat.le_of_not_lt
  intro q
  have e : sg T nT (k + 1) = -1 := if_pos (by omega)
  rw [e] at h
  exact absurd h (by decide)
