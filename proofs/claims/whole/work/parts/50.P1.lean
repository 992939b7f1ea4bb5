/-! the ways, as pure facts -/
theorem tri_sh {D : Nat → Nat → Nat} {k : Nat} (h : ∀ i, i < k → ∀ a b, D a b ≤ D a i + D i b) (hd : D k k = 0) : ∀ i, i < k + 1 → ∀ a b, shD D k a b ≤ shD D k a i + shD D k i b := by
  intro i hi a b
  unfold shD
  by_cases e : i = k
  · subst e
    rw [hd]
    omega
  · have h1 := h i (by omega) a b
    have h2 := h i (by omega) a k
    have h3 := h i (by omega) k b
    omega
theorem fw_tri {D : Nat → Nat → Nat} (hd : ∀ a, D a a = 0) : ∀ n, ∀ i, i < n → ∀ a b, fwD D n a b ≤ fwD D n a i + fwD D n i b
  | 0, _, h => absurd h (Nat.not_lt_zero _)
  | n + 1, i, h => tri_sh (fw_tri hd n) (fw_diag hd n n) i h
theorem dst_tri (o t c : Nat → Nat) (nL : Nat) {i : Nat} (hi : i < 7) (a b : Nat) : dst o t c nL a b ≤ dst o t c nL a i + dst o t c nL i b := fw_tri (jn_diag o t c nL) 7 i hi a b
theorem dst_diag (o t c : Nat → Nat) (nL a : Nat) : dst o t c nL a a = 0 := fw_diag (jn_diag o t c nL) 7 a
theorem jn_edge (o t c : Nat → Nat) : ∀ nL g, g < nL → jnD o t c nL (o g) (t g) ≤ c g ∧ jnD o t c nL (t g) (o g) ≤ c g
  | 0, _, h => absurd h (Nat.not_lt_zero _)
  | n + 1, g, h => by
    have key : ∀ a b, jnD o t c (n + 1) a b = if (a = o n ∧ b = t n) ∨ (a = t n ∧ b = o n) then min (jnD o t c n a b) (c n) else jnD o t c n a b := fun a b => rfl
    by_cases e : g = n
    · subst e
      rw [key, key, if_pos (Or.inl ⟨rfl, rfl⟩), if_pos (Or.inr ⟨rfl, rfl⟩)]
      exact ⟨Nat.min_le_right _ _, Nat.min_le_right _ _⟩
    · obtain ⟨h1, h2⟩ := jn_edge o t c n g (by omega)
      rw [key, key]
      constructor
      · split
        · exact Nat.le_trans (Nat.min_le_left _ _) h1
        · exact h1
      · split
        · exact Nat.le_trans (Nat.min_le_left _ _) h2
        · exact h2
theorem dst_edge (o t c : Nat → Nat) {nL g : Nat} (hg : g < nL) (ho : o g < 7) (ht : t g < 7) (a : Nat) : dst o t c nL a (t g) ≤ dst o t c nL a (o g) + c g ∧ dst o t c nL a (o g) ≤ dst o t c nL a (t g) + c g := by
  obtain ⟨h1, h2⟩ := jn_edge o t c nL g hg
  have e1 : dst o t c nL (o g) (t g) ≤ c g := Nat.le_trans (fw_le _ 7 _ _) h1
  have e2 : dst o t c nL (t g) (o g) ≤ c g := Nat.le_trans (fw_le _ 7 _ _) h2
  have h3 := dst_tri o t c nL ho a (t g)
  have h4 := dst_tri o t c nL ht a (o g)
  omega
def Prd (o t c : Nat → Nat) (nL : Nat) (D : Nat → Nat → Nat) : Prop := ∀ a b, a ≠ b → D a b < 1000000 → ∃ g, g < nL ∧ ∃ u, ((u = o g ∧ b = t g) ∨ (u = t g ∧ b = o g)) ∧ D a u + c g ≤ D a b
theorem jn_prd (o t c : Nat → Nat) : ∀ nL, Prd o t c nL (jnD o t c nL)
  | 0 => fun a b hab h => by
    have : jnD o t c 0 a b = 1000000 := if_neg hab
    omega
  | n + 1 => fun a b hab h => by
    have key : ∀ a b, jnD o t c (n + 1) a b = if (a = o n ∧ b = t n) ∨ (a = t n ∧ b = o n) then min (jnD o t c n a b) (c n) else jnD o t c n a b := fun a b => rfl
    have kle : ∀ a b, jnD o t c (n + 1) a b ≤ jnD o t c n a b := fun a b => by
      rw [key]
      split
      · exact Nat.min_le_left _ _
      · exact Nat.le_refl _
    by_cases hv : jnD o t c (n + 1) a b = jnD o t c n a b
    · rw [hv] at h ⊢
      obtain ⟨g, hg, u, hu, e⟩ := jn_prd o t c n a b hab h
      exact ⟨g, by omega, u, hu, Nat.le_trans (Nat.add_le_add_right (kle a u) _) e⟩
    · by_cases hc : (a = o n ∧ b = t n) ∨ (a = t n ∧ b = o n)
      · have hk := key a b
        rw [if_pos hc] at hk
        refine ⟨n, by omega, a, hc, ?_⟩
        rw [jn_diag]
        omega
      · exact absurd (by rw [key, if_neg hc]) hv
theorem sh_prd {o t c : Nat → Nat} {nL : Nat} {D : Nat → Nat → Nat} {k : Nat} (hP : Prd o t c nL D) (hd : ∀ a, D a a = 0) : Prd o t c nL (shD D k) := by
  intro a b hab h
  have key : ∀ a b, shD D k a b = min (D a b) (D a k + D k b) := fun a b => rfl
  by_cases h1 : D a b ≤ D a k + D k b
  · have e : shD D k a b = D a b := by rw [key]; omega
    rw [e] at h ⊢
    obtain ⟨g, hg, u, hu, e2⟩ := hP a b hab h
    have := key a u
    exact ⟨g, hg, u, hu, by omega⟩
  · have e : shD D k a b = D a k + D k b := by rw [key]; omega
    have hkb : k ≠ b := fun q => by
      subst q
      rw [hd] at h1
      omega
    rw [e] at h ⊢
    obtain ⟨g, hg, u, hu, e2⟩ := hP k b hkb (by omega)
    have := key a u
    exact ⟨g, hg, u, hu, by omega⟩
theorem fw_prd {o t c : Nat → Nat} {nL : Nat} {D : Nat → Nat → Nat} (hP : Prd o t c nL D) (hd : ∀ a, D a a = 0) : ∀ n, Prd o t c nL (fwD D n)
  | 0 => hP
  | n + 1 => sh_prd (fw_prd hP hd n) (fw_diag hd n)
theorem dst_prd (o t c : Nat → Nat) (nL : Nat) : Prd o t c nL (dst o t c nL) := fw_prd (jn_prd o t c nL) (jn_diag o t c nL) 7
/-- what is wanted of the locks, as numbers -/
def Lkn (nL : Nat) (o t c : Nat → Nat) : Prop := ∀ g, g < nL → o g < 7 ∧ t g < 7 ∧ o g ≠ t g ∧ 1 ≤ c g ∧ c g ≤ 9
theorem prd7 {nL : Nat} {o t c : Nat → Nat} (hN : Lkn nL o t c) {a b : Nat} (hab : a ≠ b) (h : dst o t c nL a b < 1000000) : ∃ g, g < nL ∧ ∃ u, u < 7 ∧ ((u = o g ∧ b = t g) ∨ (u = t g ∧ b = o g)) ∧ dst o t c nL a u + c g ≤ dst o t c nL a b := by
  obtain ⟨g, hg, u, hu, e⟩ := dst_prd o t c nL a b hab h
  obtain ⟨h1, h2, _⟩ := hN g hg
  exact ⟨g, hg, u, by omega, hu, e⟩
/-- how many of the first so many are nearer than that -/
def rk (d : Nat → Nat) (x : Nat) : Nat → Nat
  | 0 => 0
  | n + 1 => if d n < x then rk d x n + 1 else rk d x n
theorem rk_le (d : Nat → Nat) (x : Nat) : ∀ n, rk d x n ≤ n
  | 0 => Nat.le_refl _
  | n + 1 => by
    have := rk_le d x n
    rw [rk]
    split <;> omega
theorem rk_mono (d : Nat → Nat) {x y : Nat} (h : x ≤ y) : ∀ n, rk d x n ≤ rk d y n
  | 0 => Nat.le_refl _
  | n + 1 => by
    have := rk_mono d h n
    rw [rk, rk]
    split <;> split <;> omega
theorem rk_lt (d : Nat → Nat) {u y : Nat} (h : d u < y) : ∀ n, u < n → rk d (d u) n < rk d y n
  | 0, hu => absurd hu (Nat.not_lt_zero _)
  | n + 1, hu => by
    rw [rk, rk]
    by_cases e : u = n
    · subst e
      rw [if_neg (Nat.lt_irrefl _), if_pos h]
      have := rk_mono d (Nat.le_of_lt h) u
      omega
    · have ih := rk_lt d h n (by omega)
      split <;> split <;> omega
theorem dst_fin {nL : Nat} {o t c : Nat → Nat} (hN : Lkn nL o t c) (a : Nat) : ∀ (n b : Nat), dst o t c nL a b ≤ n → dst o t c nL a b < 1000000 → dst o t c nL a b ≤ 9 * rk (dst o t c nL a) (dst o t c nL a b) 7
  | 0, b, h, _ => by omega
  | n + 1, b, h, hf => by
    by_cases hab : a = b
    · subst hab
      rw [dst_diag]
      exact Nat.zero_le _
    · obtain ⟨g, hg, u, hu7, hu, e⟩ := prd7 hN hab hf
      obtain ⟨h1, h2, h3, h4, h5⟩ := hN g hg
      have ih := dst_fin hN a n u (by omega) (by omega)
      have hr := rk_lt (dst o t c nL a) (u := u) (y := dst o t c nL a b) (by omega) 7 hu7
      obtain ⟨e1, e2⟩ := dst_edge o t c hg h1 h2 a
      have hle : dst o t c nL a b ≤ dst o t c nL a u + c g := by
        rcases hu with ⟨rfl, rfl⟩ | ⟨rfl, rfl⟩
        · exact e1
        · exact e2
      omega
theorem dst_small {nL : Nat} {o t c : Nat → Nat} (hN : Lkn nL o t c) {a b : Nat} (ha : a < 7) (hb : b < 7) : dst o t c nL a b ≤ 63 ∨ dst o t c nL a b = 1000000 := by
  have hc := dst_cap o t c nL a ha b hb
  by_cases h : dst o t c nL a b < 1000000
  · have h1 := dst_fin hN a _ b (Nat.le_refl _) h
    have h2 := rk_le (dst o t c nL a) (dst o t c nL a b) 7
    exact Or.inl (by omega)
  · exact Or.inr (by omega)
/-- the walk: behind so many rounds; within one, behind so many locks -/
def WI (d : Nat → Nat) (k : Nat) (w : Nat → Nat) : Prop := ∀ p, p < 7 → min (d p) 10000 ≤ w p ∧ w p ≤ 10000 ∧ (rk d (d p) 7 ≤ k → d p < 1000000 → w p ≤ d p)
def WJ (o t c : Nat → Nat) (d : Nat → Nat) (k l : Nat) (w : Nat → Nat) : Prop := WI d k w ∧ ∀ g, g < l → (rk d (d (o g)) 7 ≤ k → d (o g) < 1000000 → w (t g) ≤ d (o g) + c g) ∧ (rk d (d (t g)) 7 ≤ k → d (t g) < 1000000 → w (o g) ≤ d (t g) + c g)
def w00 (f p : Nat) : Nat := if p = f then 0 else 10000
theorem WI.start {nL f : Nat} {o t c : Nat → Nat} (hN : Lkn nL o t c) : WI (dst o t c nL f) 0 (w00 f) := by
  intro p hp
  unfold w00
  by_cases e : p = f
  · subst e
    rw [if_pos rfl, dst_diag]
    exact ⟨by omega, by omega, fun _ _ => Nat.zero_le _⟩
  · rw [if_neg e]
    refine ⟨by omega, by omega, fun hr hf => ?_⟩
    obtain ⟨g, hg, u, hu7, hu, e9⟩ := prd7 hN (fun q => e q.symm) hf
    obtain ⟨h1, h2, h3, h4, h5⟩ := hN g hg
    have := rk_lt (dst o t c nL f) (u := u) (y := dst o t c nL f p) (by omega) 7 hu7
    omega
theorem WJ.start {o t c d : Nat → Nat} {k : Nat} {w : Nat → Nat} (h : WI d k w) : WJ o t c d k 0 w := ⟨h, fun g hg => absurd hg (Nat.not_lt_zero _)⟩
theorem WJ.step {o t c d : Nat → Nat} {k l : Nat} {w : Nat → Nat} (h : WJ o t c d k l w) (ho : o l < 7) (ht : t l < 7) (hne : o l ≠ t l) (h1 : d (t l) ≤ d (o l) + c l) (h2 : d (o l) ≤ d (t l) + c l) : WJ o t c d k (l + 1) (upN (upN w (o l) (min (w (o l)) (w (t l) + c l))) (t l) (min (w (t l)) (min (w (o l)) (w (t l) + c l) + c l))) := by
  obtain ⟨w', hw'⟩ : ∃ w', w' = upN (upN w (o l) (min (w (o l)) (w (t l) + c l))) (t l) (min (w (t l)) (min (w (o l)) (w (t l) + c l) + c l)) := ⟨_, rfl⟩
  rw [← hw']
  have et : w' (t l) = min (w (t l)) (min (w (o l)) (w (t l) + c l) + c l) := by rw [hw']; exact if_pos rfl
  have eo : w' (o l) = min (w (o l)) (w (t l) + c l) := by rw [hw']; exact (if_neg hne).trans (if_pos rfl)
  have ee : ∀ p, p ≠ o l → p ≠ t l → w' p = w p := fun p a b => by rw [hw']; exact (if_neg b).trans (if_neg a)
  have hle : ∀ p, w' p ≤ w p := fun p => by
    by_cases a : p = o l
    · rw [a, eo]; omega
    · by_cases b : p = t l
      · rw [b, et]; omega
      · rw [ee p a b]; exact Nat.le_refl _
  obtain ⟨o1, o2, o3⟩ := h.1 (o l) ho
  obtain ⟨t1, t2, t3⟩ := h.1 (t l) ht
  refine ⟨fun p hp => ?_, fun g hg => ?_⟩
  · obtain ⟨p1, p2, p3⟩ := h.1 p hp
    refine ⟨?_, Nat.le_trans (hle p) p2, fun a b => Nat.le_trans (hle p) (p3 a b)⟩
    by_cases a : p = o l
    · rw [a, eo]; omega
    · by_cases b : p = t l
      · rw [b, et]; omega
      · rw [ee p a b]; exact p1
  · by_cases e : g = l
    · subst e
      rw [et, eo]
      refine ⟨fun a b => ?_, fun a b => ?_⟩
      · have := o3 a b
        omega
      · have := t3 a b
        omega
    · obtain ⟨a1, a2⟩ := h.2 g (by omega)
      exact ⟨fun a b => Nat.le_trans (hle _) (a1 a b), fun a b => Nat.le_trans (hle _) (a2 a b)⟩
theorem WJ.done {nL f k : Nat} {o t c : Nat → Nat} {w : Nat → Nat} (hN : Lkn nL o t c) (h : WJ o t c (dst o t c nL f) k nL w) : WI (dst o t c nL f) (k + 1) w := by
  intro p hp
  obtain ⟨p1, p2, p3⟩ := h.1 p hp
  refine ⟨p1, p2, fun hr hf => ?_⟩
  by_cases e : f = p
  · subst e
    refine p3 ?_ hf
    rw [dst_diag]
    have : ∀ n, rk (dst o t c nL f) 0 n = 0 := fun n => by
      induction n with
      | zero => rfl
      | succ n ih => rw [rk, if_neg (Nat.not_lt_zero _), ih]
    rw [this]
    exact Nat.zero_le _
  · obtain ⟨g, hg, u, hu7, hu, e9⟩ := prd7 hN e hf
    obtain ⟨h1, h2, h3, h4, h5⟩ := hN g hg
    have hlt := rk_lt (dst o t c nL f) (u := u) (y := dst o t c nL f p) (by omega) 7 hu7
    obtain ⟨a1, a2⟩ := h.2 g hg
    rcases hu with ⟨rfl, rfl⟩ | ⟨rfl, rfl⟩
    · have := a1 (by omega) (by omega)
      omega
    · have := a2 (by omega) (by omega)
      omega
theorem WI.done {nL f : Nat} {o t c : Nat → Nat} {w : Nat → Nat} (hN : Lkn nL o t c) (hf : f < 7) (h : WI (dst o t c nL f) 7 w) {p : Nat} (hp : p < 7) : w p = min (dst o t c nL f p) 10000 := by
  obtain ⟨p1, p2, p3⟩ := h p hp
  have hr := rk_le (dst o t c nL f) (dst o t c nL f p) 7
  rcases dst_small hN hf hp with q | q
  · have := p3 hr (by omega)
    omega
  · omega
/-- one lock more -/
theorem sh_mono {D D' : Nat → Nat → Nat} (h : ∀ a b, D' a b ≤ D a b) (k : Nat) : ∀ a b, shD D' k a b ≤ shD D k a b := fun a b => by
  have h1 := h a b
  have h2 := h a k
  have h3 := h k b
  unfold shD
  omega
theorem fw_mono {D D' : Nat → Nat → Nat} (h : ∀ a b, D' a b ≤ D a b) : ∀ n a b, fwD D' n a b ≤ fwD D n a b
  | 0 => h
  | n + 1 => sh_mono (fw_mono h n) n
theorem jn_cong {o t c o' t' c' : Nat → Nat} : ∀ n, (∀ g, g < n → o' g = o g ∧ t' g = t g ∧ c' g = c g) → jnD o' t' c' n = jnD o t c n
  | 0, _ => rfl
  | n + 1, h => by
    obtain ⟨h1, h2, h3⟩ := h n (by omega)
    rw [jnD, jnD, jn_cong n (fun g hg => h g (by omega)), h1, h2, h3]
def moreE (D : Nat → Nat → Nat) (p q r : Nat) : Nat := min (D 6 r) (min (D 6 p + 1 + D q r) (D 6 q + 1 + D p r))
theorem more_eq {nL p q : Nat} {o t c o' t' c' : Nat → Nat} (hN : Lkn nL o t c) (hp : p < 7) (hq : q < 7) (hpq : p ≠ q) (hg : ∀ g, g < nL → o' g = o g ∧ t' g = t g ∧ c' g = c g) (ho : o' nL = p) (ht : t' nL = q) (hc : c' nL = 1) {r : Nat} (hr : r < 7) : dst o' t' c' (nL + 1) 6 r = moreE (dst o t c nL) p q r := by
  have hN' : Lkn (nL + 1) o' t' c' := fun g hgl => by
    by_cases e : g = nL
    · subst e
      rw [ho, ht, hc]
      exact ⟨hp, hq, hpq, by omega, by omega⟩
    · obtain ⟨e1, e2, e3⟩ := hg g (by omega)
      rw [e1, e2, e3]
      exact hN g (by omega)
  have hle : ∀ a b, dst o' t' c' (nL + 1) a b ≤ dst o t c nL a b := by
    refine fw_mono (fun a b => ?_) 7
    rw [← jn_cong nL hg]
    show joinD _ _ _ _ a b ≤ _
    unfold joinD
    split
    · exact Nat.min_le_left _ _
    · exact Nat.le_refl _
  have hcap := dst_cap o t c nL
  have hcap' := dst_cap o' t' c' (nL + 1)
  apply Nat.le_antisymm
  · obtain ⟨e1, e2⟩ := dst_edge o' t' c' (nL := nL + 1) (g := nL) (by omega) (by rw [ho]; exact hp) (by rw [ht]; exact hq) 6
    rw [ho, ht, hc] at e1 e2
    have a1 := dst_tri o' t' c' (nL + 1) hq 6 r
    have a2 := dst_tri o' t' c' (nL + 1) hp 6 r
    have b0 := hle 6 r
    have b1 := hle 6 p
    have b2 := hle 6 q
    have b3 := hle q r
    have b4 := hle p r
    unfold moreE
    omega
  · have key : ∀ n r, r < 7 → dst o' t' c' (nL + 1) 6 r ≤ n → dst o' t' c' (nL + 1) 6 r < 1000000 → moreE (dst o t c nL) p q r ≤ dst o' t' c' (nL + 1) 6 r := by
      intro n
      induction n with
      | zero =>
        intro r hr h0 _
        by_cases e : 6 = r
        · subst e
          have := dst_diag o t c nL 6
          unfold moreE
          omega
        · obtain ⟨g, hgl, u, hu7, hu, e9⟩ := prd7 hN' e (by omega)
          have := (hN' g hgl).2.2.2.1
          omega
      | succ n ih =>
        intro r hr hn hf
        by_cases e : 6 = r
        · subst e
          have := dst_diag o t c nL 6
          unfold moreE
          omega
        · obtain ⟨g, hgl, u, hu7, hu, e9⟩ := prd7 hN' e hf
          obtain ⟨n1, n2, n3, n4, n5⟩ := hN' g hgl
          have iu := ih u hu7 (by omega) (by omega)
          by_cases eg : g = nL
          · subst eg
            rw [ho, ht] at hu
            rw [hc] at e9
            have d1 := dst_diag o t c g p
            have d2 := dst_diag o t c g q
            rcases hu with ⟨rfl, rfl⟩ | ⟨rfl, rfl⟩
            · unfold moreE at iu ⊢
              omega
            · unfold moreE at iu ⊢
              omega
          · obtain ⟨e1, e2, e3⟩ := hg g (by omega)
            rw [e1, e2] at hu
            rw [e3] at e9
            obtain ⟨m1, m2, _⟩ := hN g (by omega)
            have x0 := dst_edge o t c (nL := nL) (g := g) (by omega) m1 m2 6
            have xp := dst_edge o t c (nL := nL) (g := g) (by omega) m1 m2 p
            have xq := dst_edge o t c (nL := nL) (g := g) (by omega) m1 m2 q
            rcases hu with ⟨rfl, rfl⟩ | ⟨rfl, rfl⟩
            · unfold moreE at iu ⊢
              omega
            · unfold moreE at iu ⊢
              omega
    by_cases hf : dst o' t' c' (nL + 1) 6 r < 1000000
    · exact key _ r hr (Nat.le_refl _) hf
    · have h1 := hcap 6 (by omega) r hr
      unfold moreE
      omega
