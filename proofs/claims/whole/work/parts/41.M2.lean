/-! the Model: minutes, as pure facts -/
/-- people as they may be: kinds, places, suits -/
def Vd (S : St) (nP : Nat) : Prop := ∀ p, p < nP → (∃ k, k ≤ 5 ∧ S 7 p = nI k) ∧ (∃ z, z < 7 ∧ S 8 p = nI z) ∧ (∃ w, w < 2 ^ 31 ∧ S 10 p = nI w)
theorem kind_bk : ∀ k, k ≤ 5 → ∀ a : Int32, (if nI k = 1 then (1 : Int32) else if nI k = 2 then 4 else if nI k = 3 then 3 else if nI k = 4 then 0 else if nI k = 5 then (if ¬ a = 1 then 1 else 0) else 2) = bk (nI k) (al a) := by
  intro k hk a
  rcases (show k = 0 ∨ k = 1 ∨ k = 2 ∨ k = 3 ∨ k = 4 ∨ k = 5 by omega) with rfl | rfl | rfl | rfl | rfl | rfl
  all_goals first | rfl | skip
  unfold bk al
  by_cases h : a = 1
  · rw [if_pos h]
    simp [h]
    rfl
  · rw [if_neg h]
    simp [h]
    rfl
theorem mbs_eq {S : St} {nP j : Nat} (hV : Vd S nP) (hj : j < 6) : ∀ n, n ≤ nP → mbs S nP (nI j) n = bsum S (nI j) (al (cnt (S 8) (nI j) nP)) n
  | 0, _ => rfl
  | n + 1, hn => by
    rw [mbs, bsum, mbs_eq hV hj n (by omega)]
    by_cases h : S 8 n = nI j
    · rw [if_neg (fun q => q h), if_pos h]
      congr 1
      unfold mb
      have h6 : ¬ S 8 n = 6 := by
        rw [h]
        intro q
        have := (nI_eq (a := j) (b := 6) (by omega) (by omega)).mp q
        omega
      rw [if_pos h6, h]
      obtain ⟨k, hk, e⟩ := (hV n (by omega)).1
      rw [e]
      exact kind_bk k hk _
    · rw [if_pos h, if_neg h]
theorem bin_cong {S S' : St} {nP : Nat} (h7 : S 7 = S' 7) (h8 : S 8 = S' 8) (r : Int32) : breathInS S nP r = breathInS S' nP r := by
  unfold breathInS
  rw [h8]
  have : ∀ n, bsum S r (al (cnt (S' 8) r nP)) n = bsum S' r (al (cnt (S' 8) r nP)) n := by
    intro n
    induction n with
    | zero => rfl
    | succ n ih => rw [bsum, bsum, ih, h7, h8]
  exact this nP
def nt (X S : St) : St := sw (sw X 12 2 (S 12 2)) 12 3 (S 12 3)
theorem nt_row (X S : St) {k : Nat} (h : k ≠ 12) : nt X S k = X k := by unfold nt; rw [sw_ne _ _ _ h, sw_ne _ _ _ h]
theorem st_ext {S S' : St} (h : ∀ k j, S k j = S' k j) : S = S' := funext fun k => funext fun j => h k j
theorem nt_sw (X S : St) {k : Nat} (h : k ≠ 12) (i : Nat) (v : Int32) : sw (nt X S) k i v = nt (sw X k i v) S := by
  apply st_ext
  intro a j
  unfold nt
  simp only [swv]
  by_cases e : a = k ∧ j = i
  · rw [if_pos e, if_neg (by omega), if_neg (by omega), if_pos e]
  · simp only [if_neg e]
theorem nt_self (S : St) : nt S S = S := by
  apply st_ext
  intro a j
  unfold nt
  simp only [swv]
  by_cases e : a = 12 ∧ j = 3
  · rw [if_pos e, e.1, e.2]
  · rw [if_neg e]
    by_cases e2 : a = 12 ∧ j = 2
    · rw [if_pos e2, e2.1, e2.2]
    · rw [if_neg e2]
theorem nt_live (nP : Nat) (X S : St) : nt (liveS nP X) S = nt (lmB (lmA nP X 6) nP) S := by
  apply st_ext
  intro a j
  unfold nt liveS
  simp only [swv]
  by_cases e : a = 12 ∧ j = 3
  · rw [if_pos e, if_pos e]
  · simp only [if_neg e]
    by_cases e2 : a = 12 ∧ j = 2
    · rw [if_pos e2, if_pos e2]
    · simp only [if_neg e2]
theorem liveS_g (nP : Nat) (S : St) : liveS nP S 12 3 = S 12 3 + liveG nP S := by
  unfold liveS
  rw [swv, if_pos ⟨rfl, rfl⟩, swv, if_neg (by decide), lmB_12, lmA_12]
theorem liveS_m (nP : Nat) (S : St) : liveS nP S 12 2 = S 12 2 + 1 := by
  unfold liveS
  rw [swv, if_neg (by decide), swv, if_pos ⟨rfl, rfl⟩, lmB_12, lmA_12]
theorem liveN_m (nP : Nat) (S : St) : ∀ n, liveN nP S n 12 2 = S 12 2 + nI n
  | 0 => by
    show S 12 2 = S 12 2 + 0
    rw [Int32.add_zero]
  | n + 1 => by rw [liveN, liveS_m, liveN_m nP S n, Int32.add_assoc, nI_1]
theorem g_step (a b c : Int32) : (a + b) - c = (a - c) + b := by
  simp only [Int32.sub_eq_add_neg]
  ac_rfl
theorem g_back (a b : Int32) : b + (a - b) = a := by
  rw [Int32.add_comm, Int32.sub_add_cancel]
theorem lmB_here (X : St) : ∀ n m, n ≤ m → lmB X n 10 m = X 10 m
  | 0, _, _ => rfl
  | n + 1, m, h => by
    rw [lmB]
    split
    · rw [swv, if_neg (by omega)]
      exact lmB_here X n m (by omega)
    · exact lmB_here X n m (by omega)
theorem mx_suit {w : Nat} (hw : w < 2 ^ 31) (h : ¬ nI w = 0) : mx 0 (nI w - 1) = nI w - 1 := by
  have h0 : w ≠ 0 := fun q => h (by rw [q]; rfl)
  have e : nI w - 1 = nI (w - 1) := pk_sub (a := w) (b := 1) (by omega)
  unfold mx
  rw [e]
  split
  · rfl
  · next q =>
    have : ¬ nI 0 < nI (w - 1) := q
    rw [nI_ltI (by omega) (by omega)] at this
    rw [show w - 1 = 0 by omega]
    rfl
theorem Vd.live {S : St} {nP : Nat} (h : Vd S nP) : ∀ n, Vd (liveN nP S n) nP
  | 0 => h
  | n + 1 => by
    have ih := Vd.live h n
    intro p hp
    obtain ⟨h1, h2, w, hw, e⟩ := ih p hp
    refine ⟨?_, ?_, ?_⟩
    · rw [liveN_row nP S (by decide) (by decide) (by decide) (n + 1), ← liveN_row nP S (k := 7) (by decide) (by decide) (by decide) n]
      exact h1
    · rw [liveN_row nP S (by decide) (by decide) (by decide) (n + 1), ← liveN_row nP S (k := 8) (by decide) (by decide) (by decide) n]
      exact h2
    · show ∃ w, w < 2 ^ 31 ∧ liveS nP (liveN nP S n) 10 p = nI w
      rw [show liveS nP (liveN nP S n) 10 = lmB (lmA nP (liveN nP S n) 6) nP 10 from by unfold liveS; rw [sw_ne _ _ _ (by decide), sw_ne _ _ _ (by decide)]]
      have key : ∀ m, ∃ w, w < 2 ^ 31 ∧ lmB (lmA nP (liveN nP S n) 6) m 10 p = nI w := by
        intro m
        induction m with
        | zero => exact ⟨w, hw, by show lmA nP (liveN nP S n) 6 10 p = _; rw [lmA_row nP _ (by decide)]; exact e⟩
        | succ m ihm =>
          rw [lmB]
          split
          · by_cases hm : p = m
            · subst hm
              obtain ⟨w', hw', e'⟩ := ihm
              rw [swv, if_pos ⟨rfl, rfl⟩, e']
              by_cases h0 : nI w' = 0
              · rw [h0]
                exact ⟨0, by decide, by decide⟩
              · rw [mx_suit hw' h0]
                have h0' : w' ≠ 0 := fun q => h0 (by rw [q]; rfl)
                exact ⟨w' - 1, by omega, pk_sub (a := w') (b := 1) (by omega)⟩
            · rw [swv, if_neg (by omega)]
              exact ihm
          · exact ihm
      exact key nP
theorem go_end {S T : St} {nP n : Nat} {g : Int32} (hT : T = nt (liveN nP S n) S) (hg : g = liveN nP S n 12 3 - S 12 3) : sw (sw T 12 2 (T 12 2 + nI n)) 12 3 (sw T 12 2 (T 12 2 + nI n) 12 3 + g) = liveN nP S n := by
  subst hT hg
  apply st_ext
  intro a j
  have e2 : nt (liveN nP S n) S 12 2 = S 12 2 := by unfold nt; rw [swv, if_neg (by decide), swv, if_pos ⟨rfl, rfl⟩]
  have e3 : nt (liveN nP S n) S 12 3 = S 12 3 := by unfold nt; rw [swv, if_pos ⟨rfl, rfl⟩]
  rw [swv]
  by_cases e : a = 12 ∧ j = 3
  · rw [if_pos e, swv, if_neg (by decide), e3, e.1, e.2]
    exact g_back _ _
  · rw [if_neg e, swv]
    by_cases e' : a = 12 ∧ j = 2
    · rw [if_pos e', e2, e'.1, e'.2, liveN_m]
    · rw [if_neg e']
      unfold nt
      rw [swv, if_neg e, swv, if_neg e']
