/-! both sides' ways are the same -/
theorem orN_wy {n : Nat} (h : n < 10000 ∨ n = 1000000) : orNoneS (nI n) = wy n := by
  unfold orNoneS wy
  have e : (1000000 : Int32) ≤ nI n ↔ 1000000 ≤ n := nI_leI (a := 1000000) (b := n) (by omega) (by omega)
  rcases h with h | h
  · rw [if_neg (fun q => by have := e.mp q; omega), if_pos h]
  · rw [if_pos (e.mpr (by omega)), if_neg (by omega)]
theorem wy_min (n : Nat) : wy (min n 10000) = wy n := by
  unfold wy
  by_cases h : n < 10000
  · rw [if_pos (by omega), if_pos h, Nat.min_eq_left (by omega)]
  · rw [if_neg (by omega), if_neg h]
/-- lengths: small, or as far as can be -/
def Sm (D : Nat → Nat → Nat) : Prop := (∀ a, a < 7 → ∀ b, b < 7 → D a b ≤ 63 ∨ D a b = 1000000) ∧ (∀ a, D a a = 0) ∧ (∀ i, i < 7 → ∀ a b, D a b ≤ D a i + D i b)
theorem dst_Sm {nL : Nat} {o t c : Nat → Nat} (hN : Lkn nL o t c) : Sm (dst o t c nL) := ⟨fun _ ha _ hb => dst_small hN ha hb, dst_diag o t c nL, fun _ hi a b => dst_tri o t c nL hi a b⟩
theorem mnW_min (D : Nat → Nat → Nat) (f : Nat) : ∀ n, mnW D f n = min (minD D f n) 10000
  | 0 => rfl
  | n + 1 => by
    rw [mnW, minD, mnW_min D f n]
    omega
theorem minD_sm {D : Nat → Nat → Nat} (hS : Sm D) {f : Nat} (hf : f < 7) : ∀ n, n ≤ 7 → minD D f n < 10000 ∨ minD D f n = 1000000
  | 0, _ => Or.inr rfl
  | n + 1, hn => by
    have ih := minD_sm hS hf n (by omega)
    have := hS.1 f hf n (by omega)
    rw [minD]
    omega
theorem fr_fm {D : Nat → Nat → Nat} (hS : Sm D) : ∀ n, n ≤ 6 → frR D n = fmR D n ∧ ((fmR D n = -9 ∧ frV D n = -1) ∨ ∃ r, r < 6 ∧ fmR D n = nI r ∧ frV D n = nI (D 6 r) ∧ D 6 r ≤ 63)
  | 0, _ => ⟨rfl, Or.inl ⟨rfl, rfl⟩⟩
  | n + 1, hn => by
    obtain ⟨e1, e2⟩ := fr_fm hS n (by omega)
    have hd := hS.1 6 (by omega) n (by omega)
    have e : (1000000 : Int32) ≤ nI (D 6 n) ↔ 1000000 ≤ D 6 n := nI_leI (a := 1000000) (b := D 6 n) (by omega) (by omega)
    have E1 : frR D (n + 1) = if 1000000 ≤ nI (D 6 n) then frR D n else if nI (D 6 n) ≤ frV D n then frR D n else nI n := rfl
    have E2 : fmR D (n + 1) = if 10000 ≤ D 6 n then fmR D n else if fmR D n < 0 then nI n else if D 6 n ≤ D 6 (cl (fmR D n)) then fmR D n else nI n := rfl
    have E3 : frV D (n + 1) = if 1000000 ≤ nI (D 6 n) then frV D n else if nI (D 6 n) ≤ frV D n then frV D n else nI (D 6 n) := rfl
    by_cases h1 : 10000 ≤ D 6 n
    · have hp := e.mpr (show 1000000 ≤ D 6 n by omega)
      rw [E1.trans (if_pos hp), E2.trans (if_pos h1), E3.trans (if_pos hp)]
      exact ⟨e1, e2⟩
    · have hp : ¬ (1000000 : Int32) ≤ nI (D 6 n) := fun q => by have := e.mp q; omega
      rw [E1.trans (if_neg hp), E2.trans (if_neg h1), E3.trans (if_neg hp)]
      clear E1 E2 E3
      rcases e2 with ⟨a1, a2⟩ | ⟨r, hr, a1, a2, a3⟩
      · have hn1 : ¬ nI (D 6 n) ≤ frV D n := by
          rw [a2, Int32.le_iff_toInt_le, nI_toInt (by omega)]
          have : (-1 : Int32).toInt = -1 := by decide
          omega
        have h0 : fmR D n < 0 := by
          rw [a1]
          decide
        rw [if_neg hn1, if_neg hn1, if_pos h0]
        exact ⟨rfl, Or.inr ⟨n, by omega, rfl, rfl, by omega⟩⟩
      · have h0 : ¬ fmR D n < 0 := by
          rw [a1]
          exact nI_pos (by omega)
        have hcl : cl (fmR D n) = r := by
          rw [a1]
          exact nI_clamp (by omega)
        have hle : nI (D 6 n) ≤ frV D n ↔ D 6 n ≤ D 6 r := by
          rw [a2]
          exact nI_leI (by omega) (by omega)
        rw [if_neg h0, hcl]
        by_cases h2 : D 6 n ≤ D 6 r
        · rw [if_pos (hle.mpr h2), if_pos (hle.mpr h2), if_pos h2]
          exact ⟨e1, Or.inr ⟨r, hr, a1, a2, a3⟩⟩
        · rw [if_neg (fun q => h2 (hle.mp q)), if_neg (fun q => h2 (hle.mp q)), if_neg h2]
          exact ⟨rfl, Or.inr ⟨n, by omega, rfl, rfl, by omega⟩⟩
theorem moreE_sm {D : Nat → Nat → Nat} (hS : Sm D) {p q r : Nat} (hp : p < 7) (hq : q < 7) (hr : r < 7) : moreE D p q r ≤ 127 ∨ moreE D p q r = 1000000 := by
  have h1 := hS.1 6 (by omega) r hr
  have h2 := hS.1 6 (by omega) p hp
  have h3 := hS.1 6 (by omega) q hq
  have h4 := hS.1 q hq r hr
  have h5 := hS.1 p hp r hr
  unfold moreE
  omega
theorem lw_lmx {D : Nat → Nat → Nat} (hS : Sm D) {p q : Nat} (hp : p < 7) (hq : q < 7) : ∀ n, n ≤ 7 → lmx D p q n = min (lwD D p q n) 10000 ∧ (lwD D p q n ≤ 127 ∨ lwD D p q n = 1000000)
  | 0, _ => ⟨rfl, Or.inl (Nat.zero_le _)⟩
  | n + 1, hn => by
    obtain ⟨e1, e2⟩ := lw_lmx hS hp hq n (by omega)
    have h := moreE_sm hS hp hq (r := n) (by omega)
    have e : lwD D p q (n + 1) = max (lwD D p q n) (moreE D p q n) := rfl
    rw [e, lmx, e1]
    omega
def Bb (D : Nat → Nat → Nat) (s s' : Int32 × Nat) : Prop := s'.1 = s.1 ∧ s'.2 = min s.2 10000 ∧ ((s.1 = -9 ∧ s.2 = 1000000) ∨ ∃ p q, p < 7 ∧ q < 7 ∧ s = (nI (10 * p + q), lwD D p q 6) ∧ s.2 ≤ 127)
theorem bI_eq {D : Nat → Nat → Nat} (hS : Sm D) {i : Nat} (hi : i < 7) {s s' : Int32 × Nat} (h : Bb D s s') : ∀ k, k ≤ 7 → Bb D (bnI D i s k) (bmI D i s' k)
  | 0, _ => h
  | k + 1, hk => by
    obtain ⟨a1, a2, a3⟩ := bI_eq hS hi h k (by omega)
    rw [bnI, bmI]
    by_cases hik : i < k
    · rw [if_pos hik, if_pos hik]
      obtain ⟨e1, e2⟩ := lw_lmx hS hi (q := k) (by omega) 6 (by omega)
      have h3 : (bnI D i s k).2 ≤ 127 ∨ (bnI D i s k).2 = 1000000 := by
        rcases a3 with ⟨_, q⟩ | ⟨p, q, _, _, _, q⟩
        · exact Or.inr q
        · exact Or.inl q
      by_cases hc : (bnI D i s k).2 ≤ lwD D i k 6
      · have hc2 : (bmI D i s' k).2 ≤ lmx D i k 6 := by
          clear a1 a3
          omega
        rw [if_pos hc, if_pos hc2]
        exact ⟨a1, a2, a3⟩
      · have hc2 : ¬ (bmI D i s' k).2 ≤ lmx D i k 6 := by
          clear a1 a3
          omega
        have hc3 : lwD D i k 6 ≤ 127 := by
          clear a1 a3
          omega
        rw [if_neg hc, if_neg hc2]
        exact ⟨rfl, e1, Or.inr ⟨i, k, hi, by clear a1 a3; omega, rfl, hc3⟩⟩
    · rw [if_neg hik, if_neg hik]
      exact ⟨a1, a2, a3⟩
theorem bO_eq {D : Nat → Nat → Nat} (hS : Sm D) : ∀ i, i ≤ 7 → Bb D (bnO D i) (bmO D i)
  | 0, _ => ⟨rfl, rfl, Or.inl ⟨rfl, rfl⟩⟩
  | i + 1, h => bI_eq hS (by omega) (bO_eq hS i (by omega)) 7 (Nat.le_refl _)
/-! errands -/
theorem gof_dec {D : Nat → Nat → Nat} {E : Nat → Nat} {b p all : Nat} : ∀ d n k, gof D E b p all (n + d) k ≤ gof D E b p all n k
  | 0, _, _ => Nat.le_refl _
  | d + 1, n, k => by
    refine Nat.le_trans ?_ (gof_dec d n k)
    show gof D E b p all (n + d + 1) k ≤ _
    rw [gof]
    split
    · exact Nat.le_refl _
    · split
      · unfold upN
        split
        · next e => rw [e]; exact Nat.min_le_left _ _
        · exact Nat.le_refl _
      · exact Nat.le_refl _
theorem or_ge (b n : Nat) : b ≤ b ||| 2 ^ n := Nat.left_le_or
theorem gof_keep {D : Nat → Nat → Nat} {E : Nat → Nat} {b p all k : Nat} (hk : k < (b + 1) * 7) : ∀ n, gof D E b p all n k = E k
  | 0 => rfl
  | n + 1 => by
    have ih := gof_keep (D := D) (E := E) (p := p) (all := all) hk n
    rw [gof]
    split
    · exact ih
    · next h =>
      split
      · unfold upN
        have h1 := or_ge b n
        rw [if_neg (by omega)]
        exact ih
      · exact ih
theorem gof_new {D : Nat → Nat → Nat} {E : Nat → Nat} {b p all q : Nat} (hq : q < 7) (h1 : b ||| 2 ^ q ≠ b) (h2 : (b ||| 2 ^ q) ||| all = all) : gof D E b p all 7 ((b ||| 2 ^ q) * 7 + q) ≤ E (b * 7 + p) + D p q := by
  have h := gof_dec (D := D) (E := E) (b := b) (p := p) (all := all) (7 - (q + 1)) (q + 1) ((b ||| 2 ^ q) * 7 + q)
  rw [show q + 1 + (7 - (q + 1)) = 7 by omega] at h
  refine Nat.le_trans h ?_
  rw [gof, if_neg h1, if_pos h2]
  unfold upN
  rw [if_pos rfl]
  exact Nat.min_le_right _ _
theorem erA_keep {D : Nat → Nat → Nat} {all b k : Nat} {E : Nat → Nat} (hk : k < (b + 1) * 7) : ∀ p, erA D all b E p k = E k
  | 0 => rfl
  | p + 1 => (gof_keep hk 7).trans (erA_keep hk p)
theorem erA_dec {D : Nat → Nat → Nat} {all b : Nat} {E : Nat → Nat} : ∀ d p k, erA D all b E (p + d) k ≤ erA D all b E p k
  | 0, _, _ => Nat.le_refl _
  | d + 1, p, k => Nat.le_trans (gof_le 7 k) (erA_dec d p k)
theorem erB_keep {D : Nat → Nat → Nat} {all k n : Nat} {E : Nat → Nat} (hk : k < (n + 1) * 7) : ∀ d, erB D all E (n + d) k = erB D all E n k
  | 0 => rfl
  | d + 1 => (erA_keep (show k < (n + d + 1) * 7 by omega) 7).trans (erB_keep hk d)
theorem erB_dec {D : Nat → Nat → Nat} {all n : Nat} {E : Nat → Nat} (k : Nat) : ∀ d, erB D all E (n + d) k ≤ erB D all E n k
  | 0 => Nat.le_refl _
  | d + 1 => Nat.le_trans (erA_le 7 k) (erB_dec k d)
/-- a table's closure -/
theorem er_close {D : Nat → Nat → Nat} {all N b p q : Nat} {E : Nat → Nat} (hb : b < N) (hp : p < 7) (hq : q < 7) (h1 : b ||| 2 ^ q ≠ b) (h2 : (b ||| 2 ^ q) ||| all = all) : erB D all E N ((b ||| 2 ^ q) * 7 + q) ≤ erB D all E N (b * 7 + p) + D p q := by
  have k1 : b * 7 + p < (b + 1) * 7 := by omega
  have e1 := erB_keep (D := D) (all := all) (E := E) k1 (N - b)
  rw [show b + (N - b) = N by omega] at e1
  have e2 := erB_dec (D := D) (all := all) (n := b + 1) (E := E) ((b ||| 2 ^ q) * 7 + q) (N - (b + 1))
  rw [show b + 1 + (N - (b + 1)) = N by omega] at e2
  refine Nat.le_trans e2 ?_
  show erA D all b (erB D all E b) 7 _ ≤ _
  have e3 := erA_dec (D := D) (all := all) (b := b) (E := erB D all E b) (7 - (p + 1)) (p + 1) ((b ||| 2 ^ q) * 7 + q)
  rw [show p + 1 + (7 - (p + 1)) = 7 by omega] at e3
  refine Nat.le_trans e3 ?_
  show gof D (erA D all b (erB D all E b) p) b p all 7 _ ≤ _
  refine Nat.le_trans (gof_new hq h1 h2) ?_
  rw [erA_keep k1 p, e1]
  exact Nat.le_refl _
/-- what lies under a table's beginning and is closed lies under the table -/
def Und (D : Nat → Nat → Nat) (M : Nat → Nat) : Prop := ∀ b p q, b < 128 → p < 7 → q < 7 → b ||| 2 ^ q ≠ b → M ((b ||| 2 ^ q) * 7 + q) ≤ M (b * 7 + p) + D p q
theorem und_gof {D : Nat → Nat → Nat} {M E : Nat → Nat} {b p all : Nat} (hU : Und D M) (hb : b < 128) (hp : p < 7) (hE : ∀ k, M k ≤ E k) : ∀ n, n ≤ 7 → ∀ k, M k ≤ gof D E b p all n k
  | 0, _, k => hE k
  | n + 1, hn, k => by
    have ih := und_gof (all := all) hU hb hp hE n (by omega)
    rw [gof]
    split
    · exact ih k
    · next h1 =>
      split
      · unfold upN
        split
        · next e =>
          have h2 := hU b p n hb hp (by omega) h1
          have h3 := hE (b * 7 + p)
          have h4 := ih ((b ||| 2 ^ n) * 7 + n)
          rw [e]
          omega
        · exact ih k
      · exact ih k
theorem und_erA {D : Nat → Nat → Nat} {M E : Nat → Nat} {b all : Nat} (hU : Und D M) (hb : b < 128) (hE : ∀ k, M k ≤ E k) : ∀ p, p ≤ 7 → ∀ k, M k ≤ erA D all b E p k
  | 0, _ => hE
  | p + 1, hp => und_gof hU hb (by omega) (und_erA hU hb hE p (by omega)) 7 (Nat.le_refl _)
theorem und_erB {D : Nat → Nat → Nat} {M E : Nat → Nat} {all : Nat} (hU : Und D M) (hE : ∀ k, M k ≤ E k) : ∀ n, n ≤ 128 → ∀ k, M k ≤ erB D all E n k
  | 0, _ => hE
  | n + 1, hn => und_erA hU (by omega) (und_erB hU hE n (by omega)) 7 (Nat.le_refl _)
theorem bs_at {D : Nat → Nat → Nat} {f b p : Nat} (hb : b < 128) (hp : p < 7) : erM D f b p (b * 7 + p) = erB (capD D) 127 (E0m f) 128 (b * 7 + p) := by
  have k1 : b * 7 + p < (b + 1) * 7 := by omega
  unfold erM
  rw [erA_keep k1 p]
  have e1 := erB_keep (D := capD D) (all := 127) (E := E0m f) k1 (128 - b)
  rw [show b + (128 - b) = 128 by omega] at e1
  exact e1.symm
theorem bsA_lo {D : Nat → Nat → Nat} {f pl b s X : Nat} (hb : b < 128) (hs : X ≤ s) (h : ∀ p, p < 7 → pl ||| b = b → X ≤ erB (capD D) 127 (E0m f) 128 (b * 7 + p)) : ∀ p, p ≤ 7 → X ≤ bsA D f pl b s p
  | 0, _ => hs
  | p + 1, hp => by
    have ih := bsA_lo hb hs h p (by omega)
    rw [bsA]
    split
    · next e =>
      have := h p (by omega) e
      rw [bs_at hb (by omega)]
      omega
    · exact ih
theorem bsB_lo {D : Nat → Nat → Nat} {f pl X : Nat} (hX : X ≤ 10000) (h : ∀ b p, b < 128 → p < 7 → pl ||| b = b → X ≤ erB (capD D) 127 (E0m f) 128 (b * 7 + p)) : ∀ b, b ≤ 128 → X ≤ bsB D f pl b
  | 0, _ => hX
  | b + 1, hb => bsA_lo (by omega) (bsB_lo hX h b (by omega)) (fun p hp e => h b p (by omega) hp e) 7 (Nat.le_refl _)
theorem bsA_dec {D : Nat → Nat → Nat} {f pl b s : Nat} : ∀ d p, bsA D f pl b s (p + d) ≤ bsA D f pl b s p
  | 0, _ => Nat.le_refl _
  | d + 1, p => by
    have ih := bsA_dec (D := D) (f := f) (pl := pl) (b := b) (s := s) d p
    refine Nat.le_trans ?_ ih
    show bsA D f pl b s (p + d + 1) ≤ _
    rw [bsA]
    split
    · exact Nat.min_le_left _ _
    · exact Nat.le_refl _
theorem bsB_dec {D : Nat → Nat → Nat} {f pl n : Nat} : ∀ d, bsB D f pl (n + d) ≤ bsB D f pl n
  | 0 => Nat.le_refl _
  | d + 1 => Nat.le_trans (bsA_le 7) (bsB_dec d)
theorem bsB_hi {D : Nat → Nat → Nat} {f pl b p : Nat} (hb : b < 128) (hp : p < 7) (e : pl ||| b = b) : bsB D f pl 128 ≤ erB (capD D) 127 (E0m f) 128 (b * 7 + p) := by
  have h1 := bsB_dec (D := D) (f := f) (pl := pl) (n := b + 1) (128 - (b + 1))
  rw [show b + 1 + (128 - (b + 1)) = 128 by omega] at h1
  refine Nat.le_trans h1 ?_
  show bsA D f pl b (bsB D f pl b) 7 ≤ _
  have h2 := bsA_dec (D := D) (f := f) (pl := pl) (b := b) (s := bsB D f pl b) (7 - (p + 1)) (p + 1)
  rw [show p + 1 + (7 - (p + 1)) = 7 by omega] at h2
  refine Nat.le_trans h2 ?_
  rw [bsA, if_pos e, bs_at hb hp]
  exact Nat.min_le_right _ _
theorem minE_at {E : Nat → Nat} {all : Nat} : ∀ n a, a < n → minE E all n ≤ E (all * 7 + a)
  | 0, _, h => absurd h (Nat.not_lt_zero _)
  | n + 1, a, h => by
    rw [minE]
    by_cases e : a = n
    · rw [e]
      exact Nat.min_le_right _ _
    · exact Nat.le_trans (Nat.min_le_left _ _) (minE_at n a (by omega))
theorem minE_lo {E : Nat → Nat} {all X : Nat} (hX : X ≤ 1000000) : ∀ n, (∀ a, a < n → X ≤ E (all * 7 + a)) → X ≤ minE E all n
  | 0, _ => hX
  | n + 1, h => by
    rw [minE]
    have := minE_lo hX n (fun a ha => h a (by omega))
    have := h n (by omega)
    omega
/-- entries are small, or as far as can be -/
def Ssm (E : Nat → Nat) : Prop := ∀ b p, p < 7 → E (b * 7 + p) ≤ 63 * b ∨ E (b * 7 + p) = 1000000
theorem ssm_gof {D : Nat → Nat → Nat} {E : Nat → Nat} {b p all : Nat} (hS : Sm D) (hp : p < 7) (hE : Ssm E) : ∀ n, n ≤ 7 → Ssm (gof D E b p all n)
  | 0, _ => hE
  | n + 1, hn => by
    have ih := ssm_gof (b := b) (all := all) hS hp hE n (by omega)
    intro b2 p2 hp2
    rw [gof]
    split
    · exact ih b2 p2 hp2
    · next h1 =>
      split
      · unfold upN
        split
        · next e =>
          have hge := or_ge b n
          have e1 : b2 = b ||| 2 ^ n := by omega
          have h2 := hE b p hp
          have h3 := hS.1 p hp n (by omega)
          have h4 := ih (b ||| 2 ^ n) n (by omega)
          rw [e1]
          omega
        · exact ih b2 p2 hp2
      · exact ih b2 p2 hp2
theorem ssm_erA {D : Nat → Nat → Nat} {E : Nat → Nat} {b all : Nat} (hS : Sm D) (hE : Ssm E) : ∀ p, p ≤ 7 → Ssm (erA D all b E p)
  | 0, _ => hE
  | p + 1, hp => ssm_gof hS (by omega) (ssm_erA hS hE p (by omega)) 7 (Nat.le_refl _)
theorem ssm_erB {D : Nat → Nat → Nat} {E : Nat → Nat} {all : Nat} (hS : Sm D) (hE : Ssm E) : ∀ n, Ssm (erB D all E n)
  | 0 => hE
  | n + 1 => ssm_erA hS (ssm_erB hS hE n) 7 (Nat.le_refl _)
theorem ssm_E00 (f : Nat) : Ssm (E00 f) := fun b p hp => by
  show (if b * 7 + p = 2 ^ f * 7 + f then 0 else 1000000) ≤ _ ∨ (if b * 7 + p = 2 ^ f * 7 + f then 0 else 1000000) = _
  split
  · exact Or.inl (Nat.zero_le _)
  · exact Or.inr rfl
theorem bit_fact : ∀ f, f < 7 → ∀ pl, pl < 128 → ∀ b, b < 128 → pl ||| b = b → b ||| 2 ^ f = b → b &&& (pl ||| 2 ^ f) = pl ||| 2 ^ f := by decide +kernel
theorem bit_in1 : ∀ A, A < 128 → ∀ b, b < 128 → ∀ q, q < 7 → A ||| 2 ^ q = A → (b ||| 2 ^ q) &&& A = (b &&& A) ||| 2 ^ q := by decide +kernel
theorem bit_in2 : ∀ A, A < 128 → ∀ b, b < 128 → ∀ q, q < 7 → (b &&& A) ||| 2 ^ q = b &&& A → b ||| 2 ^ q = b := by decide +kernel
theorem bit_in3 : ∀ A, A < 128 → ∀ b, b < 128 → ∀ q, q < 7 → A ||| 2 ^ q = A → ((b &&& A) ||| 2 ^ q) ||| A = A := by decide +kernel
theorem bit_in4 {A b q : Nat} (h1 : b ||| 2 ^ q ≠ b) (hA : A < 128) (hb : b < 128) (hq : q < 7) (h2 : A ||| 2 ^ q = A) : b &&& A < A := by
  refine Nat.lt_of_le_of_ne Nat.and_le_right (fun e => ?_)
  have h3 := bit_in2 A hA b hb q hq
  rw [e] at h3
  exact h1 (h3 h2)
theorem bit_in {A b q : Nat} (hA : A < 128) (hb : b < 128) (hq : q < 7) (h1 : b ||| 2 ^ q ≠ b) (h2 : A ||| 2 ^ q = A) : (b ||| 2 ^ q) &&& A = (b &&& A) ||| 2 ^ q ∧ (b &&& A) ||| 2 ^ q ≠ b &&& A ∧ ((b &&& A) ||| 2 ^ q) ||| A = A ∧ b &&& A < A := ⟨bit_in1 A hA b hb q hq h2, fun q9 => h1 (bit_in2 A hA b hb q hq q9), bit_in3 A hA b hb q hq h2, bit_in4 h1 hA hb hq h2⟩
theorem bit_out : ∀ A, A < 128 → ∀ b, b < 128 → ∀ q, q < 7 → A ||| 2 ^ q ≠ A → (b ||| 2 ^ q) &&& A = b &&& A := by decide +kernel
theorem bit_f : ∀ f, f < 7 → ∀ pl, pl < 128 → 2 ^ f &&& (pl ||| 2 ^ f) = 2 ^ f ∧ 2 ^ f ||| 2 ^ f = 2 ^ f ∧ pl ||| (pl ||| 2 ^ f) = pl ||| 2 ^ f := by decide +kernel
theorem bit_m : ∀ f, f < 7 → ∀ b, b < 128 → ∀ q, q < 7 → b ||| 2 ^ f = b → (b ||| 2 ^ q) ||| 2 ^ f = b ||| 2 ^ q := by decide +kernel
/-- the least over the places come by last -/
def mnP (E : Nat → Nat) (D : Nat → Nat → Nat) (m p : Nat) : Nat → Nat
  | 0 => 10000
  | a + 1 => min (mnP E D m p a) (E (m * 7 + a) + D a p)
theorem mnP_le {E : Nat → Nat} {D : Nat → Nat → Nat} {m p : Nat} : ∀ n a, a < n → mnP E D m p n ≤ E (m * 7 + a) + D a p
  | 0, _, h => absurd h (Nat.not_lt_zero _)
  | n + 1, a, h => by
    rw [mnP]
    by_cases e : a = n
    · rw [e]
      exact Nat.min_le_right _ _
    · exact Nat.le_trans (Nat.min_le_left _ _) (mnP_le n a (by omega))
theorem mnP_cap {E : Nat → Nat} {D : Nat → Nat → Nat} {m p : Nat} : ∀ n, mnP E D m p n ≤ 10000
  | 0 => Nat.le_refl _
  | n + 1 => Nat.le_trans (Nat.min_le_left _ _) (mnP_cap n)
theorem mnP_lo {E : Nat → Nat} {D : Nat → Nat → Nat} {m p X : Nat} (hX : X ≤ 10000) : ∀ n, (∀ a, a < n → X ≤ E (m * 7 + a) + D a p) → X ≤ mnP E D m p n
  | 0, _ => hX
  | n + 1, h => by
    rw [mnP]
    have := mnP_lo hX n (fun a ha => h a (by omega))
    have := h n (by omega)
    omega
def MX (E : Nat → Nat) (D : Nat → Nat → Nat) (f A k : Nat) : Nat := if k / 7 ||| 2 ^ f = k / 7 then mnP E D (k / 7 &&& A) (k % 7) 7 else 10000
theorem MX_at {E : Nat → Nat} {D : Nat → Nat → Nat} {f A b p : Nat} (hp : p < 7) : MX E D f A (b * 7 + p) = if b ||| 2 ^ f = b then mnP E D (b &&& A) p 7 else 10000 := by
  unfold MX
  rw [show (b * 7 + p) / 7 = b by omega, show (b * 7 + p) % 7 = p by omega]
theorem MX_cap {E : Nat → Nat} {D : Nat → Nat → Nat} {f A k : Nat} : MX E D f A k ≤ 10000 := by
  unfold MX
  split
  · exact mnP_cap 7
  · exact Nat.le_refl _
theorem mx_und {D : Nat → Nat → Nat} (hS : Sm D) {f pl : Nat} (hf : f < 7) (hpl : pl < 128) : Und (capD D) (MX (erB D (pl ||| 2 ^ f) (E00 f) (pl ||| 2 ^ f)) D f (pl ||| 2 ^ f)) := by
  intro b p q hb hp hq hbq
  have hA : pl ||| 2 ^ f < 128 := or128 hpl (pow7 f hf)
  obtain ⟨A, hAe⟩ : ∃ A, A = pl ||| 2 ^ f := ⟨_, rfl⟩
  rw [← hAe] at hA ⊢
  rw [MX_at hq, MX_at hp]
  by_cases hfb : b ||| 2 ^ f = b
  · rw [if_pos hfb, if_pos (bit_m f hf b hb q hq hfb)]
    by_cases hD : D p q = 1000000
    · have : capD D p q = 10000 := by unfold capD; rw [hD]; rfl
      have := mnP_cap (E := erB D A (E00 f) A) (D := D) (m := (b ||| 2 ^ q) &&& A) (p := q) 7
      omega
    · have hd := hS.1 p hp q hq
      have hc : capD D p q = D p q := by unfold capD; omega
      rw [hc]
      have key : ∀ a, a < 7 → mnP (erB D A (E00 f) A) D ((b ||| 2 ^ q) &&& A) q 7 ≤ erB D A (E00 f) A ((b &&& A) * 7 + a) + D a p + D p q := by
        intro a ha
        have htri := hS.2.2 p hp a q
        by_cases hqA : A ||| 2 ^ q = A
        · obtain ⟨g1, g2, g3, g4⟩ := bit_in hA hb hq hbq hqA
          rw [g1]
          have h1 := mnP_le (E := erB D A (E00 f) A) (D := D) (m := (b &&& A) ||| 2 ^ q) (p := q) 7 q hq
          have h2 := er_close (D := D) (all := A) (N := A) (E := E00 f) g4 ha hq g2 g3
          have h3 := hS.2.1 q
          omega
        · rw [bit_out A hA b hb q hq hqA]
          have h1 := mnP_le (E := erB D A (E00 f) A) (D := D) (m := b &&& A) (p := q) 7 a ha
          omega
      have hcap := mnP_cap (E := erB D A (E00 f) A) (D := D) (m := (b ||| 2 ^ q) &&& A) (p := q) 7
      have := mnP_lo (E := erB D A (E00 f) A) (D := D) (m := b &&& A) (p := p) (X := mnP (erB D A (E00 f) A) D ((b ||| 2 ^ q) &&& A) q 7 - D p q) (by omega) 7 (fun a ha => by have := key a ha; omega)
      omega
  · rw [if_neg hfb]
    have := MX_cap (E := erB D A (E00 f) A) (D := D) (f := f) (A := A) (k := (b ||| 2 ^ q) * 7 + q)
    rw [MX_at hq] at this
    omega
theorem err_eq {D : Nat → Nat → Nat} (hS : Sm D) {f pl : Nat} (hf : f < 7) (hpl : pl < 128) : bsB D f pl 128 = min (errD D f pl) 10000 ∧ (errD D f pl < 10000 ∨ errD D f pl = 1000000) := by
  have hA : pl ||| 2 ^ f < 128 := or128 hpl (pow7 f hf)
  obtain ⟨f1, f2, f3⟩ := bit_f f hf pl hpl
  have hsm : errD D f pl < 10000 ∨ errD D f pl = 1000000 := by
    have h1 := ssm_erB (all := pl ||| 2 ^ f) hS (ssm_E00 f) (pl ||| 2 ^ f)
    have key : ∀ n, n ≤ 7 → minE (erB D (pl ||| 2 ^ f) (E00 f) (pl ||| 2 ^ f)) (pl ||| 2 ^ f) n < 10000 ∨ minE (erB D (pl ||| 2 ^ f) (E00 f) (pl ||| 2 ^ f)) (pl ||| 2 ^ f) n = 1000000 := by
      intro n
      induction n with
      | zero => exact fun _ => Or.inr rfl
      | succ n ih =>
        intro hn
        have i1 := ih (by omega)
        have i2 := h1 (pl ||| 2 ^ f) n (by omega)
        rw [minE]
        omega
    exact key 7 (Nat.le_refl _)
  refine ⟨Nat.le_antisymm ?_ ?_, hsm⟩
  · have hcap := bsB_le D f pl 128
    have h1 : bsB D f pl 128 ≤ errD D f pl := by
      refine minE_lo (by omega) 7 (fun a ha => ?_)
      refine Nat.le_trans (bsB_hi (b := pl ||| 2 ^ f) hA ha f3) ?_
      have hU : Und D (erB (capD D) 127 (E0m f) 128) := fun b p q hb hp hq hbq => by
        have := er_close (D := capD D) (all := 127) (N := 128) (E := E0m f) hb hp hq hbq (or127 _ (or128 hb (pow7 q hq)))
        have h2 : capD D p q ≤ D p q := Nat.min_le_left _ _
        omega
      refine und_erB hU (fun k => ?_) (pl ||| 2 ^ f) (by omega) _
      have h3 := erB_le (D := capD D) (all := 127) (E := E0m f) 128 k
      have h4 := E0m_le f k
      show _ ≤ (if k = 2 ^ f * 7 + f then 0 else 1000000)
      split
      · next e =>
        have : E0m f k = 0 := if_pos e
        omega
      · omega
    omega
  · have hU := mx_und hS hf hpl
    have hM := und_erB (all := 127) hU (E := E0m f) (fun k => by
      show MX _ D f _ k ≤ (if k = 2 ^ f * 7 + f then 0 else 10000)
      split
      · next e =>
        rw [e, MX_at hf, if_pos f2, f1]
        have h1 := mnP_le (E := erB D (pl ||| 2 ^ f) (E00 f) (pl ||| 2 ^ f)) (D := D) (m := 2 ^ f) (p := f) 7 f hf
        have h2 := erB_le (D := D) (all := pl ||| 2 ^ f) (E := E00 f) (pl ||| 2 ^ f) (2 ^ f * 7 + f)
        have h3 : E00 f (2 ^ f * 7 + f) = 0 := if_pos rfl
        have h4 := hS.2.1 f
        omega
      · exact MX_cap) 128 (Nat.le_refl _)
    refine bsB_lo (Nat.min_le_right _ _) (fun b p hb hp e => ?_) 128 (Nat.le_refl _)
    refine Nat.le_trans ?_ (hM (b * 7 + p))
    rw [MX_at hp]
    by_cases hfb : b ||| 2 ^ f = b
    · rw [if_pos hfb, bit_fact f hf pl hpl b hb e hfb]
      refine mnP_lo (Nat.min_le_right _ _) 7 (fun a ha => ?_)
      have := minE_at (E := erB D (pl ||| 2 ^ f) (E00 f) (pl ||| 2 ^ f)) (all := pl ||| 2 ^ f) 7 a ha
      have h5 : errD D f pl ≤ erB D (pl ||| 2 ^ f) (E00 f) (pl ||| 2 ^ f) ((pl ||| 2 ^ f) * 7 + a) := this
      omega
    · rw [if_neg hfb]
      exact Nat.min_le_right _ _
