/-! a step a method: the two sides answer alike, and stay alike -/
theorem Rest.live (nP : Nat) (S : St) (n : Nat) : Rest S (liveN nP S n) := ⟨fun k h1 _ _ _ _ _ => liveN_row nP S (by omega) (by omega) (by omega) n, fun j h1 _ => liveN_12j nP S (by omega) (by omega) n⟩
theorem Rest.go (nP : Nat) (S : St) (p g : Nat) : Rest S (goS nP S p g) := ⟨fun k h1 _ _ _ _ _ => goS_row nP S p g (by omega) (by omega) (by omega) (by omega), fun j h1 _ => goS_12j nP S p g (by omega) (by omega)⟩
theorem Rest.w {S : St} {k : Nat} (hk : k ≤ 11) (j : Nat) (v : Int32) : Rest S (sw S k j v) := ⟨fun a h1 _ _ _ _ _ => sw_ne _ _ _ (by omega), fun b _ _ => by rw [sw_ne _ _ _ (by omega)]⟩
theorem nn {Sn Sk T U S : St} {v : Int32} (h : Rel Sn Sk T U S) : RelX (v, Sn, Sk, T, U) (v, S) := ⟨rfl, h⟩
theorem nv {Sn Sk T U S : St} {v v' : Int32} (h : Rel Sn Sk T U S) (e : v' = v) : RelX (v, Sn, Sk, T, U) (v', S) := ⟨e, h⟩
theorem RelX_mk {v v' : Int32} {A K T' U' S' : St} (e : v' = v) (h : Rel A K T' U' S') : RelX (v, A, K, T', U') (v', S') := ⟨e, h⟩
theorem nr {Sn Sk T U S : St} (h : Rel Sn Sk T U S) (v : Int32) (k : Nat) : RelX (v, Sn, Sk, T, rfU U k) (v, nob S k) := ⟨rfl, h.refu k⟩
theorem wth02 {j : Nat} (hj : j ≤ 2) : ¬ wthS (nI j) 0 2 = 0 := by
  unfold wthS
  rw [if_neg (nI_pos (n := j) (by omega)), if_neg (show ¬ (2 : Int32) < nI j from nI_nlt (a := 2) (b := j) hj (by omega))]
  decide
theorem e_letter {Sn Sk T U S : St} {nP nL : Nat} {o t c u : Nat → Nat} (h : Rel Sn Sk T U S) (hB : BIn Sn S nP nL o t c u) {nT : Nat} (hT : TI T S nT) (v : Int32) : RelX (xf_letter Sn Sk T U nT v) (mf_letter S nT v) := by
  obtain ⟨hP, hP5, hL, hL7, hLk, hc1, hzd, hV, hA, hu, hu5, h6, hE⟩ := hB
  unfold xf_letter mf_letter
  by_cases h1 : 0 ≤ v
  · rw [if_pos h1, if_pos h1]
    by_cases h2 : 255 < v
    · rw [if_pos h2, if_pos h2]
      exact nr h _ _
    · rw [if_neg h2, if_neg h2]
      obtain ⟨t1, t2, t3, t4, t5⟩ := hT
      by_cases h3 : nT = 96
      · subst h3
        rw [if_neg (show ¬ nI 96 < 96 by decide), if_neg (fun q => q rfl)]
        exact nr h _ _
      · rw [if_pos (show nI nT < 96 from nI_lt (b := 96) (by omega) (by omega)), if_pos (show ¬ nI nT = 96 from fun q => h3 ((nI_eq (b := 96) (by omega) (by omega)).mp q))]
        obtain ⟨j, hj0, hj, rfl⟩ := mins_of (a := 0) (b := 255) (na := 0) (nb := 255) rfl rfl (by decide) (by decide) h1 h2
        obtain ⟨⟨p1, l1, o1, t1', c1', u1, hB1⟩, -, ⟨nR, r1, r2, r3, r4⟩, g4, g5, g6⟩ := h
        refine RelX_mk rfl ⟨⟨p1, l1, o1, t1', c1', u1, hB1.eqS ?_⟩, ⟨nT + 1, ?_⟩, ⟨nR, r1, r2, ?_, ?_⟩, ?_, ?_, ?_⟩
        · have e9 := hB1.E
          exact ⟨fun k hk => by rw [sw_ne _ _ _ (by omega), sw_ne _ _ _ (by omega)]; exact e9.1 k hk, fun k k1 k2 g hg => by rw [sw_ne _ _ _ (by omega), sw_ne _ _ _ (by omega)]; exact e9.2.1 k k1 k2 g hg, fun i hi => by rw [sw_ne _ _ _ (by decide), swv, if_neg (by omega)]; exact e9.2.2 i hi⟩
        · refine ⟨(by unfold addT; rw [swv, if_pos ⟨rfl, rfl⟩]), by omega, by rw [sw_ne _ _ _ (by decide), swv, if_pos ⟨rfl, rfl⟩], fun i hi => ?_, fun i hi => ?_⟩
          · unfold addT
            rw [swv, sw_ne _ _ _ (show (13 : Nat) ≠ 12 by decide), sw_ne _ _ _ (show (0 : Nat) ≠ 1 by decide), swv]
            by_cases e : i = nT
            · rw [if_pos ⟨rfl, e⟩, if_pos ⟨rfl, e⟩]
            · rw [if_neg (fun q => e q.2), if_neg (fun q => e q.2)]
              exact t4 i (by omega)
          · rw [swv, sw_ne _ _ _ (show (13 : Nat) ≠ 12 by decide)]
            by_cases e : i = nT
            · rw [if_pos ⟨rfl, e⟩]
              exact ⟨j, by omega, rfl⟩
            · rw [if_neg (fun q => e q.2)]
              exact t5 i (by omega)
        · rw [sw_ne _ _ _ (by decide), swv, if_neg (by omega)]
          exact r3
        · rw [sw_ne _ _ _ (by decide), sw_ne _ _ _ (by decide)]
          exact r4
        · rw [sw_ne _ _ _ (by decide), sw_ne _ _ _ (by decide)]
          exact g4
        · rw [sw_ne _ _ _ (by decide), swv, if_neg (by omega)]
          exact g5
        · rw [sw_ne _ _ _ (by decide), sw_ne _ _ _ (by decide)]
          exact g6
  · rw [if_neg h1, if_neg h1]
    exact nr h _ _
theorem e_room {Sn Sk T U S : St} {nP nL : Nat} {o t c u : Nat → Nat} (h : Rel Sn Sk T U S) (hB : BIn Sn S nP nL o t c u) (v w : Int32) : RelX (xf_room Sn Sk T U nP v w) (mf_room S nP v w) := by
  obtain ⟨hP, hP5, hL, hL7, hLk, hc1, hzd, hV, hA, hu, hu5, h6, hE⟩ := hB
  unfold xf_room mf_room
  by_cases h1 : isRoomS v = 0
  · rw [if_pos h1, if_pos h1]
    exact nr h _ _
  · rw [if_neg h1, if_neg h1]
    obtain ⟨j, hj, rfl⟩ := isRoom_of h1
    by_cases h2 : w = 0
    · rw [if_pos h2, if_pos h2]
      exact nv h (by rw [hE.1 0 (by omega)])
    · rw [if_neg h2, if_neg h2]
      by_cases h3 : w = 1
      · rw [if_pos h3, if_pos h3]
        exact nv h (by rw [hE.1 1 (by omega)])
      · rw [if_neg h3, if_neg h3]
        by_cases h4 : w = 2
        · rw [if_pos h4, if_pos h4]
          exact nv h (cnt_eq9 hE _ _)
        · rw [if_neg h4, if_neg h4]
          by_cases h5 : w = 3
          · rw [if_pos h5, if_pos h5]
            exact nv h (mbs_eq9 hV hE hj)
          · rw [if_neg h5, if_neg h5]
            exact nr h _ _
theorem e_lock {Sn Sk T U S : St} {nP nL : Nat} {o t c u : Nat → Nat} (h : Rel Sn Sk T U S) (hB : BIn Sn S nP nL o t c u) (v w : Int32) : RelX (xf_lock Sn Sk T U v w) (mf_lock S v w) := by
  obtain ⟨hP, hP5, hL, hL7, hLk, hc1, hzd, hV, hA, hu, hu5, h6, hE⟩ := hB
  unfold xf_lock mf_lock
  rw [hasL_eq hE]
  by_cases h1 : hasLockS Sn v = 0
  · rw [if_pos h1, if_pos h1]
    exact nr h _ _
  · rw [if_neg h1, if_neg h1]
    obtain ⟨g, hg, rfl⟩ := hasL_of hL hL7 h1
    rw [show cl (nI g) = g from nI_clamp (by omega)]
    by_cases k0 : w = 0
    · rw [if_pos k0, if_pos k0]
      exact nv h (hE.2.1 2 (by omega) (by omega) g hg)
    · rw [if_neg k0, if_neg k0]
      by_cases k1 : w = 1
      · rw [if_pos k1, if_pos k1]
        exact nv h (hE.2.1 3 (by omega) (by omega) g hg)
      · rw [if_neg k1, if_neg k1]
        by_cases k2 : w = 2
        · rw [if_pos k2, if_pos k2]
          exact nv h (hE.2.1 4 (by omega) (by omega) g hg)
        · rw [if_neg k2, if_neg k2]
          by_cases k3 : w = 3
          · rw [if_pos k3, if_pos k3]
            exact nv h (hE.2.1 5 (by omega) (by omega) g hg)
          · rw [if_neg k3, if_neg k3]
            by_cases k4 : w = 4
            · rw [if_pos k4, if_pos k4]
              exact nv h (hE.2.1 6 (by omega) (by omega) g hg)
            · rw [if_neg k4, if_neg k4]
              exact nr h _ _
theorem e_person {Sn Sk T U S : St} {nP nL : Nat} {o t c u : Nat → Nat} (h : Rel Sn Sk T U S) (hB : BIn Sn S nP nL o t c u) (v w : Int32) : RelX (xf_person Sn Sk T U nP v w) (mf_person S nP v w) := by
  obtain ⟨hP, hP5, hL, hL7, hLk, hc1, hzd, hV, hA, hu, hu5, h6, hE⟩ := hB
  unfold xf_person mf_person
  rw [hasP_eq hE]
  by_cases h1 : hasPersonS Sn v = 0
  · rw [if_pos h1, if_pos h1]
    exact nr h _ _
  · rw [if_neg h1, if_neg h1]
    obtain ⟨p, hp, rfl⟩ := hasP_of hP hP5 h1
    have hcl : cl (nI p) = p := nI_clamp (by omega)
    have hbr : mb S nP p = breathOfS Sn nP (nI p) := by
      unfold breathOfS
      rw [if_neg h1, mb_eq (hV.eq9 hE) hp, hcl, hE.1 8 (by omega), hE.1 7 (by omega)]
    rw [hcl]
    by_cases k0 : w = 0
    · rw [if_pos k0, if_pos k0]
      exact nv h (by rw [hE.1 7 (by omega)])
    · rw [if_neg k0, if_neg k0]
      by_cases k1 : w = 1
      · rw [if_pos k1, if_pos k1]
        exact nv h (by rw [hE.1 8 (by omega)])
      · rw [if_neg k1, if_neg k1]
        by_cases k2 : w = 2
        · rw [if_pos k2, if_pos k2]
          exact nv h (by rw [hE.1 9 (by omega)])
        · rw [if_neg k2, if_neg k2]
          by_cases k3 : w = 3
          · rw [if_pos k3, if_pos k3]
            exact nv h (by rw [hE.1 10 (by omega)])
          · rw [if_neg k3, if_neg k3]
            by_cases k4 : w = 4
            · rw [if_pos k4, if_pos k4]
              exact nv h hbr
            · rw [if_neg k4, if_neg k4]
              exact nr h _ _
theorem e_open {Sn Sk T U S : St} {nP nL : Nat} {o t c u : Nat → Nat} (h : Rel Sn Sk T U S) (hB : BIn Sn S nP nL o t c u) (v w : Int32) : RelX (xf_open Sn Sk T U v w) (mf_open S v w) := by
  obtain ⟨hP, hP5, hL, hL7, hLk, hc1, hzd, hV, hA, hu, hu5, h6, hE⟩ := hB
  unfold xf_open mf_open
  rw [hasL_eq hE]
  by_cases h1 : hasLockS Sn v = 0
  · rw [if_pos h1, if_pos h1]
    exact nr h _ _
  · rw [if_neg h1, if_neg h1]
    obtain ⟨g, hg, rfl⟩ := hasL_of hL hL7 h1
    rw [show cl (nI g) = g from nI_clamp (by omega), hE.2.1 6 (by omega) (by omega) g hg]
    by_cases h2 : w < 0
    · rw [if_pos h2, if_pos (show wthS w 0 2 = 0 by unfold wthS; rw [if_pos h2])]
      exact nr h _ _
    · rw [if_neg h2]
      by_cases h3 : w ≤ 2
      · rw [if_pos h3]
        obtain ⟨j, hj0, hj, rfl⟩ := mins_of2 (a := 0) (b := 2) (na := 0) (nb := 2) rfl rfl (by decide) (by decide) (Int32.not_lt.mp h2) h3
        obtain ⟨-, z, hz, ez⟩ := hzd g hg
        have hw : RelX (nI z, sw Sn 6 g (nI j), Sk, T, U) (nI z, sw S 6 g (nI j)) := ⟨rfl, h.bur ⟨nP, nL, o, t, c, u, BIn.w ⟨hP, hP5, hL, hL7, hLk, hc1, hzd, hV, hA, hu, hu5, h6, hE⟩ (Or.inr ⟨rfl, hg, j, hj, rfl⟩)⟩ (Rest.w (by omega) _ _)⟩
        have l0 : ∀ n, n ≤ 2 → (nI n ≤ 0 ↔ nI n = 0) := by decide
        rw [if_neg (wth02 hj), ez]
        by_cases k0 : nI j = 0
        · rw [if_pos k0, if_pos ((l0 j hj).mpr k0)]
          exact hw
        · rw [if_neg k0, if_neg (fun q => k0 ((l0 j hj).mp q))]
          by_cases k1 : nI z = 0
          · rw [if_pos k1, if_pos ((l0 z hz).mpr k1)]
            exact hw
          · rw [if_neg k1, if_neg (fun q => k1 ((l0 z hz).mp q))]
            by_cases k2 : nI z = nI j
            · rw [if_pos k2, if_pos k2]
              exact hw
            · rw [if_neg k2, if_neg k2]
              exact nr h _ _
      · rw [if_neg h3, if_pos (show wthS w 0 2 = 0 by unfold wthS; rw [if_neg h2, if_pos (Int32.not_le.mp h3)])]
        exact nr h _ _
theorem e_passes {Sn Sk T U S : St} {nP nL : Nat} {o t c u : Nat → Nat} (h : Rel Sn Sk T U S) (hB : BIn Sn S nP nL o t c u) (v w : Int32) : RelX (xf_passes Sn Sk T U nP v w) (mf_passes S nP v w) := by
  obtain ⟨hP, hP5, hL, hL7, hLk, hc1, hzd, hV, hA, hu, hu5, h6, hE⟩ := hB
  unfold xf_passes mf_passes
  rw [hasP_eq hE, hasL_eq hE, hE.can hL (by omega)]
  by_cases h1 : hasPersonS Sn v = 0
  · rw [if_pos h1, if_pos h1]
    exact nr h _ _
  · rw [if_neg h1, if_neg h1]
    by_cases h2 : hasLockS Sn w = 0
    · rw [if_pos h2, if_pos h2]
      exact nr h _ _
    · rw [if_neg h2, if_neg h2]
      by_cases h3 : canPassS Sn v w = 0
      · rw [if_pos h3, if_pos h3]
        exact nr h _ _
      · rw [if_neg h3, if_neg h3]
        have hg := can_lt hL (by omega) h3
        rw [hE.2.2 2 (by decide), hE.2.1 5 (by omega) (by omega) _ hg]
        by_cases h4 : Sn 12 2 + Sn 5 (cl w) ≤ 999
        · rw [if_pos h4, if_pos h4]
          refine ⟨?_, h.bur ⟨nP, nL, o, t, c, u, BIn.go ⟨hP, hP5, hL, hL7, hLk, hc1, hzd, hV, hA, hu, hu5, h6, hE⟩ hg⟩ (Rest.go _ _ _ _)⟩
          show goS nP S (cl v) (cl w) 8 (cl v) = goS nP Sn (cl v) (cl w) 8 (cl v)
          rw [(hE.go hg).1 8 (by omega)]
        · rw [if_neg h4, if_neg h4]
          exact nr h _ _
theorem e_minutes {Sn Sk T U S : St} {nP nL : Nat} {o t c u : Nat → Nat} (h : Rel Sn Sk T U S) (hB : BIn Sn S nP nL o t c u) (v : Int32) : RelX (xf_minutes Sn Sk T U nP v) (mf_minutes S nP v) := by
  obtain ⟨hP, hP5, hL, hL7, hLk, hc1, hzd, hV, hA, hu, hu5, h6, hE⟩ := hB
  unfold xf_minutes mf_minutes
  rw [hE.2.2 2 (by decide)]
  by_cases h1 : 1 ≤ v
  · rw [if_pos h1, if_pos h1]
    by_cases h2 : 99 < v
    · rw [if_pos h2, if_pos h2]
      exact nr h _ _
    · rw [if_neg h2, if_neg h2]
      by_cases h3 : Sn 12 2 + v ≤ 999
      · rw [if_pos h3, if_pos h3]
        exact ⟨gsp_eq hE, h.bur ⟨nP, nL, o, t, c, u, BIn.live ⟨hP, hP5, hL, hL7, hLk, hc1, hzd, hV, hA, hu, hu5, h6, hE⟩ _⟩ (Rest.live _ _ _)⟩
      · rw [if_neg h3, if_neg h3]
        exact nr h _ _
  · rw [if_neg h1, if_neg h1]
    exact nr h _ _
theorem e_leak {Sn Sk T U S : St} {nP nL : Nat} {o t c u : Nat → Nat} (h : Rel Sn Sk T U S) (hB : BIn Sn S nP nL o t c u) (v w : Int32) : RelX (xf_leak Sn Sk T U v w) (mf_leak S v w) := by
  obtain ⟨hP, hP5, hL, hL7, hLk, hc1, hzd, hV, hA, hu, hu5, h6, hE⟩ := hB
  unfold xf_leak mf_leak
  by_cases h1 : isRoomS v = 0
  · rw [if_pos h1, if_pos h1]
    exact nr h _ _
  · rw [if_neg h1, if_neg h1]
    obtain ⟨j, hj, rfl⟩ := isRoom_of h1
    by_cases h2 : 0 ≤ w
    · rw [if_pos h2, if_pos h2]
      by_cases h3 : w ≤ 9
      · rw [if_pos h3, if_pos h3]
        obtain ⟨b, hb0, hb, rfl⟩ := mins_of2 (a := 0) (b := 9) (na := 0) (nb := 9) rfl rfl (by decide) (by decide) h2 h3
        rw [show cl (nI j) = j from nI_clamp (by omega)]
        refine ⟨?_, h.bur ⟨nP, nL, o, t, c, u, BIn.w ⟨hP, hP5, hL, hL7, hLk, hc1, hzd, hV, hA, hu, hu5, h6, hE⟩ (Or.inl ⟨rfl, hj, b, hb, rfl⟩)⟩ (Rest.w (by omega) _ _)⟩
        show S 1 j = Sn 1 j
        rw [hE.1 1 (by omega)]
      · rw [if_neg h3, if_neg h3]
        exact nr h _ _
    · rw [if_neg h2, if_neg h2]
      exact nr h _ _
theorem e_air {Sn Sk T U S : St} {nP nL : Nat} {o t c u : Nat → Nat} (h : Rel Sn Sk T U S) (hB : BIn Sn S nP nL o t c u) (v w : Int32) : RelX (xf_air Sn Sk T U nP v w) (mf_air S nP v w) := by
  obtain ⟨hP, hP5, hL, hL7, hLk, hc1, hzd, hV, hA, hu, hu5, h6, hE⟩ := hB
  unfold xf_air mf_air
  by_cases h1 : isRoomS v = 0
  · rw [if_pos h1, if_pos h1]
    exact nr h _ _
  · rw [if_neg h1, if_neg h1]
    obtain ⟨j, hj, rfl⟩ := isRoom_of h1
    by_cases h2 : 0 ≤ w
    · rw [if_pos h2, if_pos h2]
      by_cases h3 : w ≤ 99
      · rw [if_pos h3, if_pos h3]
        obtain ⟨n, hn0, hn, rfl⟩ := mins_of2 (a := 0) (b := 99) (na := 0) (nb := 99) rfl rfl (by decide) (by decide) h2 h3
        rw [show cl (nI j) = j from nI_clamp (by omega), show cl (nI n) = n from nI_clamp (by omega)]
        exact nv h (by rw [(hE.live n).1 0 (by omega)]; exact live_air hP5 hV hA hj hn)
      · rw [if_neg h3, if_neg h3]
        exact nr h _ _
    · rw [if_neg h2, if_neg h2]
      exact nr h _ _
theorem e_gasps {Sn Sk T U S : St} {nP nL : Nat} {o t c u : Nat → Nat} (h : Rel Sn Sk T U S) (hB : BIn Sn S nP nL o t c u) (v : Int32) : RelX (xf_gasps Sn Sk T U nP v) (mf_gasps S nP v) := by
  obtain ⟨hP, hP5, hL, hL7, hLk, hc1, hzd, hV, hA, hu, hu5, h6, hE⟩ := hB
  unfold xf_gasps mf_gasps
  by_cases h2 : 0 ≤ v
  · rw [if_pos h2, if_pos h2]
    by_cases h3 : v ≤ 99
    · rw [if_pos h3, if_pos h3]
      exact nv h (gsp_eq hE)
    · rw [if_neg h3, if_neg h3]
      exact nr h _ _
  · rw [if_neg h2, if_neg h2]
    exact nr h _ _
theorem e_out {Sn Sk T U S : St} {nP nL : Nat} {o t c u : Nat → Nat} (h : Rel Sn Sk T U S) (hB : BIn Sn S nP nL o t c u) : RelX (xf_out Sn Sk T U nP) ((outL nP S 99 1, S)) := by
  obtain ⟨hP, hP5, hL, hL7, hLk, hc1, hzd, hV, hA, hu, hu5, h6, hE⟩ := hB
  exact nv h (outL_eq hE 99 1)
theorem e_way {Sn Sk T U S : St} {nP nL : Nat} {o t c u : Nat → Nat} (h : Rel Sn Sk T U S) (hB : BIn Sn S nP nL o t c u) (v w : Int32) : RelX (xf_way Sn Sk T U (dst o t c nL) v w) (mf_way S (dst o t c nL) v w) := by
  obtain ⟨hP, hP5, hL, hL7, hLk, hc1, hzd, hV, hA, hu, hu5, h6, hE⟩ := hB
  have hS : Sm (dst o t c nL) := dst_Sm (hLk.num hc1)
  unfold xf_way mf_way
  by_cases h1 : isPlaceS v = 0
  · rw [if_pos h1, if_pos h1]
    exact nr h _ _
  · rw [if_neg h1, if_neg h1]
    by_cases h2 : isPlaceS w = 0
    · rw [if_pos h2, if_pos h2]
      exact nr h _ _
    · rw [if_neg h2, if_neg h2]
      obtain ⟨a, ha, rfl⟩ := isPlace_of h1
      obtain ⟨b, hb, rfl⟩ := isPlace_of h2
      rw [show cl (nI a) = a from nI_clamp (by omega), show cl (nI b) = b from nI_clamp (by omega)]
      exact nv h (orN_wy (by have := hS.1 a ha b hb; omega)).symm
theorem e_soonest {Sn Sk T U S : St} {nP nL : Nat} {o t c u : Nat → Nat} (h : Rel Sn Sk T U S) (hB : BIn Sn S nP nL o t c u) (v : Int32) : RelX (xf_soonest Sn Sk T U (dst o t c nL) v) (mf_soonest S (dst o t c nL) v) := by
  obtain ⟨hP, hP5, hL, hL7, hLk, hc1, hzd, hV, hA, hu, hu5, h6, hE⟩ := hB
  have hS : Sm (dst o t c nL) := dst_Sm (hLk.num hc1)
  unfold xf_soonest mf_soonest
  by_cases h1 : isPlaceS v = 0
  · rw [if_pos h1, if_pos h1]
    exact nr h _ _
  · rw [if_neg h1, if_neg h1]
    obtain ⟨a, ha, rfl⟩ := isPlace_of h1
    rw [show cl (nI a) = a from nI_clamp (by omega), mnW_min, wy_min]
    exact nv h (orN_wy (minD_sm hS ha 6 (by omega))).symm
theorem w01 {w : Int32} : wthS w 0 1 = 0 ↔ ¬ w = 0 ∧ ¬ w = 1 := by
  unfold wthS
  by_cases h0 : w = 0
  · subst h0
    exact ⟨fun q => absurd q (by decide), fun q => absurd rfl q.1⟩
  · by_cases h1 : w = 1
    · subst h1
      exact ⟨fun q => absurd q (by decide), fun q => absurd rfl q.2⟩
    · refine ⟨fun _ => ⟨h0, h1⟩, fun _ => ?_⟩
      by_cases h2 : w < 0
      · rw [if_pos h2]
      · by_cases h3 : 1 < w
        · rw [if_neg h2, if_pos h3]
        · exfalso
          obtain ⟨j, hj0, hj, rfl⟩ := mins_of (a := 0) (b := 1) (na := 0) (nb := 1) rfl rfl (by decide) (by decide) (Int32.not_lt.mp h2) h3
          rcases (show j = 0 ∨ j = 1 by omega) with rfl | rfl
          · exact h0 rfl
          · exact h1 rfl
theorem e_farthest {Sn Sk T U S : St} {nP nL : Nat} {o t c u : Nat → Nat} (h : Rel Sn Sk T U S) (hB : BIn Sn S nP nL o t c u) (w : Int32) : RelX (xf_farthest Sn Sk T U (dst o t c nL) w) (mf_farthest S (dst o t c nL) w) := by
  obtain ⟨hP, hP5, hL, hL7, hLk, hc1, hzd, hV, hA, hu, hu5, h6, hE⟩ := hB
  have hS : Sm (dst o t c nL) := dst_Sm (hLk.num hc1)
  obtain ⟨e1, e2⟩ := fr_fm hS 6 (Nat.le_refl _)
  unfold xf_farthest mf_farthest
  rw [e1]
  by_cases h0 : w = 0
  · rw [if_pos h0, if_neg (fun q => (w01.mp q).1 h0)]
    rcases e2 with ⟨a1, -⟩ | ⟨r, hr, a1, -, -⟩
    · rw [a1, if_pos (show isRoomS (-9) = 0 by decide), if_pos (show (-9 : Int32) < 0 by decide)]
      exact nn h
    · rw [a1, if_neg (show ¬ isRoomS (nI r) = 0 by rw [isRoom_yes hr]; decide), if_neg (nI_pos (n := r) (by omega)), if_neg (fun q => q h0)]
      exact nn h
  · rw [if_neg h0]
    by_cases h1 : w = 1
    · rw [if_pos h1, if_neg (fun q => (w01.mp q).2 h1)]
      rcases e2 with ⟨a1, -⟩ | ⟨r, hr, a1, -, -⟩
      · rw [a1, if_pos (show isRoomS (-9) = 0 by decide), if_pos (show (-9 : Int32) < 0 by decide)]
        exact nn h
      · rw [a1, if_neg (show ¬ isRoomS (nI r) = 0 by rw [isRoom_yes hr]; decide), if_neg (nI_pos (n := r) (by omega)), if_pos h0]
        exact nn h
    · rw [if_neg h1, if_pos (w01.mpr ⟨h0, h1⟩)]
      exact nr h _ _
theorem e_more {Sn Sk T U S : St} {nP nL : Nat} {o t c u : Nat → Nat} (h : Rel Sn Sk T U S) (hB : BIn Sn S nP nL o t c u) (w : Int32) : RelX (xf_more Sn Sk T U (dst o t c nL) w) (mf_more S (dst o t c nL) w) := by
  obtain ⟨hP, hP5, hL, hL7, hLk, hc1, hzd, hV, hA, hu, hu5, h6, hE⟩ := hB
  have hS : Sm (dst o t c nL) := dst_Sm (hLk.num hc1)
  obtain ⟨e1, e2, e3⟩ := bO_eq hS 7 (Nat.le_refl _)
  unfold xf_more mf_more
  rw [e1, e2]
  have hneg : (bnO (dst o t c nL) 7).1 < 0 → orNoneS (lw9 (dst o t c nL) (bnO (dst o t c nL) 7).1) = (bnO (dst o t c nL) 7).1 := fun q => by
    rcases e3 with ⟨a1, a2⟩ | ⟨p, q2, hp, hq, a1, a2⟩
    · have e9 : lw9 (dst o t c nL) (-9) = 1000000 := if_neg (by decide)
      rw [a1, e9]
      decide
    · rw [a1] at q
      exact absurd q (nI_pos (n := 10 * p + q2) (by omega))
  by_cases h0 : w = 0
  · rw [if_pos h0, if_neg (fun q => (w01.mp q).1 h0)]
    by_cases hn : (bnO (dst o t c nL) 7).1 < 0
    · rw [if_pos hn]
      exact nn h
    · rw [if_neg hn, if_neg (fun q => q h0)]
      exact nn h
  · rw [if_neg h0]
    by_cases h1 : w = 1
    · rw [if_pos h1, if_neg (fun q => (w01.mp q).2 h1)]
      by_cases hn : (bnO (dst o t c nL) 7).1 < 0
      · rw [if_pos hn, hneg hn]
        exact nn h
      · rw [if_neg hn, if_pos h0]
        rcases e3 with ⟨a1, a2⟩ | ⟨p, q2, hp, hq, a1, a2⟩
        · rw [a1] at hn
          exact absurd (by decide) hn
        · rw [a1] at a2 ⊢
          have a3 : lwD (dst o t c nL) p q2 6 ≤ 127 := a2
          refine nv h ?_
          show nI (min (lwD (dst o t c nL) p q2 6) 10000) = orNoneS (lw9 (dst o t c nL) (nI (10 * p + q2)))
          rw [lw9_nat hp hq, orN_wy (by omega), Nat.min_eq_left (by omega)]
          exact (if_pos (by omega)).symm
    · rw [if_neg h1, if_pos (w01.mpr ⟨h0, h1⟩)]
      exact nr h _ _
theorem e_errands {Sn Sk T U S : St} {nP nL : Nat} {o t c u : Nat → Nat} (h : Rel Sn Sk T U S) (hB : BIn Sn S nP nL o t c u) (v w : Int32) : RelX (xf_errands Sn Sk T U (dst o t c nL) v w) (mf_errands S (dst o t c nL) v w) := by
  obtain ⟨hP, hP5, hL, hL7, hLk, hc1, hzd, hV, hA, hu, hu5, h6, hE⟩ := hB
  have hS : Sm (dst o t c nL) := dst_Sm (hLk.num hc1)
  unfold xf_errands mf_errands
  by_cases h1 : isPlaceS v = 0
  · rw [if_pos h1, if_pos h1]
    exact nr h _ _
  · rw [if_neg h1, if_neg h1]
    obtain ⟨a, ha, rfl⟩ := isPlace_of h1
    by_cases h2 : w < 0
    · rw [if_pos h2, if_pos (show wthS w 0 127 = 0 by unfold wthS; rw [if_pos h2])]
      exact nr h _ _
    · rw [if_neg h2]
      by_cases h3 : w < 128
      · obtain ⟨pl, hpl, rfl⟩ := plc_of h2 h3
        have hw : ¬ wthS (nI pl) 0 127 = 0 := by
          unfold wthS
          rw [if_neg (nI_pos (n := pl) (by omega)), if_neg (show ¬ (127 : Int32) < nI pl from nI_nlt (a := 127) (b := pl) (by omega) (by omega))]
          decide
        rw [if_pos h3, if_neg hw, show cl (nI a) = a from nI_clamp (by omega), show cl (nI pl) = pl from nI_clamp (by omega)]
        obtain ⟨q1, q2⟩ := err_eq hS ha hpl
        rw [q1, wy_min]
        exact nv h (orN_wy q2).symm
      · have hw : wthS w 0 127 = 0 := by
          unfold wthS
          rw [if_neg h2, if_pos]
          rw [Int32.lt_iff_toInt_lt] at h3 ⊢
          have k1 : (128 : Int32).toInt = 128 := by decide
          have k2 : (127 : Int32).toInt = 127 := by decide
          omega
        rw [if_neg h3, if_pos hw]
        exact nr h _ _
theorem e_fitted {Sn Sk T U S : St} {nP nL : Nat} {o t c u : Nat → Nat} (h : Rel Sn Sk T U S) (hB : BIn Sn S nP nL o t c u) : RelX (xf_fitted Sn Sk T U nP) ((nI nP - nI (pc5 (leastBareS S nP)), S)) := by
  obtain ⟨hP, hP5, hL, hL7, hLk, hc1, hzd, hV, hA, hu, hu5, h6, hE⟩ := hB
  exact nv h (by rw [leB_eq hE])
theorem e_bare {Sn Sk T U S : St} {nP nL : Nat} {o t c u : Nat → Nat} (h : Rel Sn Sk T U S) (hB : BIn Sn S nP nL o t c u) : RelX (xf_bare Sn Sk T U nP) ((nI (leastBareS S nP), S)) := by
  obtain ⟨hP, hP5, hL, hL7, hLk, hc1, hzd, hV, hA, hu, hu5, h6, hE⟩ := hB
  exact nv h (by rw [leB_eq hE])
theorem e_row {Sn Sk T U S : St} {nP nL : Nat} {o t c u : Nat → Nat} (h : Rel Sn Sk T U S) (hB : BIn Sn S nP nL o t c u) {nR : Nat} (hR : RI U S nR) (v : Int32) : RelX (xf_row Sn Sk T U nR v) (mf_row S nR v) := by
  obtain ⟨hP, hP5, hL, hL7, hLk, hc1, hzd, hV, hA, hu, hu5, h6, hE⟩ := hB
  unfold xf_row mf_row
  by_cases h1 : 0 ≤ v
  · rw [if_pos h1, if_pos h1]
    by_cases h2 : 999 < v
    · rw [if_pos h2, if_pos h2]
      exact nr h _ _
    · rw [if_neg h2, if_neg h2]
      obtain ⟨r1, r2, r3, r4⟩ := hR
      by_cases h3 : nR = 12
      · subst h3
        rw [if_neg (show ¬ nI 12 < 12 by decide), if_neg (fun q => q rfl)]
        exact nr h _ _
      · rw [if_pos (show nI nR < 12 from nI_lt (b := 12) (by omega) (by omega)), if_pos (show ¬ nI nR = 12 from fun q => h3 ((nI_eq (b := 12) (by omega) (by omega)).mp q))]
        obtain ⟨⟨p1, l1, o1, t1', c1', u1, hB1⟩, ⟨nT, hT⟩, -, g4, g5, g6⟩ := h
        refine RelX_mk rfl ⟨⟨p1, l1, o1, t1', c1', u1, hB1.eqS ?_⟩, ⟨nT, hT.cong ?_ ?_⟩, ⟨nR + 1, ?_, by omega, ?_, ?_⟩, ?_, ?_, ?_⟩
        · have e9 := hB1.E
          exact ⟨fun k hk => by rw [sw_ne _ _ _ (by omega), sw_ne _ _ _ (by omega)]; exact e9.1 k hk, fun k k1 k2 g hg => by rw [sw_ne _ _ _ (by omega), sw_ne _ _ _ (by omega)]; exact e9.2.1 k k1 k2 g hg, fun i hi => by rw [sw_ne _ _ _ (by decide), swv, if_neg (by omega)]; exact e9.2.2 i hi⟩
        · rw [sw_ne _ _ _ (by decide), swv, if_neg (by omega)]
        · rw [sw_ne _ _ _ (by decide), sw_ne _ _ _ (by decide)]
        · rw [swv, if_pos ⟨rfl, rfl⟩]
        · rw [sw_ne _ _ _ (by decide), swv, if_pos ⟨rfl, rfl⟩]
        · rw [sw_eq, sw_ne _ _ _ (show (15 : Nat) ≠ 12 by decide), sw_ne _ _ _ (show (1 : Nat) ≠ 0 by decide), sw_eq, r4]
        · rw [sw_ne _ _ _ (show (16 : Nat) ≠ 15 by decide), sw_ne _ _ _ (show (16 : Nat) ≠ 12 by decide), sw_ne _ _ _ (show (2 : Nat) ≠ 0 by decide), sw_ne _ _ _ (show (2 : Nat) ≠ 1 by decide)]
          exact g4
        · have e0 : sw (sw U 1 nR v) 0 1 (nI (nR + 1)) 0 0 = U 0 0 := by rw [swv, if_neg (by omega), sw_ne _ _ _ (by decide)]
          rw [e0, sw_ne _ _ _ (show (12 : Nat) ≠ 15 by decide), swv, if_neg (by omega)]
          exact g5
        · have e0 : sw (sw U 1 nR v) 0 1 (nI (nR + 1)) 0 0 = U 0 0 := by rw [swv, if_neg (by omega), sw_ne _ _ _ (by decide)]
          intro hne
          rw [sw_ne _ _ _ (show (17 : Nat) ≠ 15 by decide), sw_ne _ _ _ (show (17 : Nat) ≠ 12 by decide)]
          exact g6 (fun q => hne (e0.trans q))
  · rw [if_neg h1, if_neg h1]
    exact nr h _ _
theorem e_gauges {Sn Sk T U S : St} {nP nL : Nat} {o t c u : Nat → Nat} (h : Rel Sn Sk T U S) (hB : BIn Sn S nP nL o t c u) {nR : Nat} (hR : RI U S nR) (v w : Int32) : RelX (xf_gauges Sn Sk T U nP nR v w) (mf_gauges S nP nR v w) := by
  obtain ⟨hP, hP5, hL, hL7, hLk, hc1, hzd, hV, hA, hu, hu5, h6, hE⟩ := hB
  obtain ⟨r1, r2, r3, r4⟩ := hR
  unfold xf_gauges mf_gauges
  by_cases h1 : 0 ≤ v
  · rw [if_pos h1, if_pos h1]
    by_cases h2 : v ≤ 99
    · rw [if_pos h2, if_pos h2]
      obtain ⟨n, hn0, hn, rfl⟩ := mins_of2 (a := 0) (b := 99) (na := 0) (nb := 99) rfl rfl (by decide) (by decide) h1 h2
      rw [show cl (nI n) = n from nI_clamp (by omega)]
      by_cases h3 : w < 0
      · rw [if_pos h3, if_pos (show wthS w 0 2 = 0 by unfold wthS; rw [if_pos h3])]
        exact nr h _ _
      · rw [if_neg h3]
        by_cases h4 : w ≤ 2
        · obtain ⟨j, hj0, hj, rfl⟩ := mins_of2 (a := 0) (b := 2) (na := 0) (nb := 2) rfl rfl (by decide) (by decide) (Int32.not_lt.mp h3) h4
          rw [if_pos h4, if_neg (wth02 hj)]
          by_cases h5 : nI nR = 6
          · rw [if_pos h5, if_pos h5]
            rcases (show j = 0 ∨ j = 1 ∨ j = 2 by omega) with rfl | rfl | rfl
            · rw [if_pos (show nI 0 = 0 from rfl), if_neg (show ¬ nI 0 = 2 by decide), if_pos (show nI 0 = 0 from rfl)]
              exact nv h (gm_wl hP5 hV hA hE r4 hn 6 (Nat.le_refl _))
            · rw [if_neg (show ¬ nI 1 = 0 by decide), if_pos (show nI 1 = 1 from rfl), if_neg (show ¬ nI 1 = 2 by decide), if_neg (show ¬ nI 1 = 0 by decide)]
              exact nv h (gf_fl hP5 hV hA hE r4 hn 6 0 rfl rfl)
            · rw [if_neg (show ¬ nI 2 = 0 by decide), if_neg (show ¬ nI 2 = 1 by decide), if_pos (show nI 2 = 2 from rfl)]
              have hi := iso_ru (U := U) hP5 hV hA hE r4 hn
              by_cases h6 : isoF S nP n 6 = 0
              · rw [if_pos h6, if_pos (hi.mp h6)]
                exact nn h
              · rw [if_neg h6, if_neg (fun q => h6 (hi.mpr q))]
                exact nn h
          · rw [if_neg h5, if_neg h5]
            exact nr h _ _
        · rw [if_neg h4, if_pos (show wthS w 0 2 = 0 by unfold wthS; rw [if_neg h3, if_pos (Int32.not_le.mp h4)])]
          exact nr h _ _
    · rw [if_neg h2, if_neg h2]
      exact nr h _ _
  · rw [if_neg h1, if_neg h1]
    exact nr h _ _
theorem e_judge {Sn Sk T U S : St} {nP nL : Nat} {o t c u : Nat → Nat} (h : Rel Sn Sk T U S) (hB : BIn Sn S nP nL o t c u) {nR : Nat} (hR : RI U S nR) : RelX (xf_judge Sn Sk T U nP nR) (mf_judge S nP nR) := by
  obtain ⟨hP, hP5, hL, hL7, hLk, hc1, hzd, hV, hA, hu, hu5, h6, hE⟩ := hB
  obtain ⟨r1, r2, r3, r4⟩ := hR
  obtain ⟨q1, q2⟩ := ptL_eq9 (U := fun _ => S 15) (nP := nP) (nL := nL) (by omega) nR 0 Sn S hL hE
  rw [ptL_told (U := fun _ => S 15) (V := U) (by rw [r4]) nP nR 0 Sn] at q1 q2
  unfold xf_judge mf_judge
  rw [q1]
  by_cases h1 : nI nR ≤ (ptL U nP nR 0 Sn).1
  · rw [if_pos h1, if_pos h1]
    exact nn h
  · rw [if_neg h1, if_neg h1]
    exact nn h
theorem e_ends {Sn Sk T U S : St} {nP nL : Nat} {o t c u : Nat → Nat} (h : Rel Sn Sk T U S) (hB : BIn Sn S nP nL o t c u) {nR : Nat} (hR : RI U S nR) : RelX (xf_ends Sn Sk T U nP nR) (mf_ends S nP nR) := by
  obtain ⟨hP, hP5, hL, hL7, hLk, hc1, hzd, hV, hA, hu, hu5, h6, hE⟩ := hB
  obtain ⟨r1, r2, r3, r4⟩ := hR
  obtain ⟨q1, q2⟩ := ptL_eq9 (U := fun _ => S 15) (nP := nP) (nL := nL) (by omega) nR 0 Sn S hL hE
  rw [ptL_told (U := fun _ => S 15) (V := U) (by rw [r4]) nP nR 0 Sn] at q1 q2
  exact nv h (by rw [q2.2.2 3 (by decide), hE.2.2 3 (by decide)])
theorem e_seeds {Sn Sk T U S : St} {nP nL : Nat} {o t c u : Nat → Nat} (h : Rel Sn Sk T U S) (hB : BIn Sn S nP nL o t c u) (v w : Int32) : RelX (xf_seeds Sn Sk T U nP v w) (mf_seeds S nP v w) := by
  obtain ⟨hP, hP5, hL, hL7, hLk, hc1, hzd, hV, hA, hu, hu5, h6, hE⟩ := hB
  unfold xf_seeds mf_seeds
  rw [hE.2.2 1 (by decide), hE.2.2 0 (by decide), sdL_eq9 (nL := nL) (by omega) _ _ _ _ _ hL hE]
  by_cases h1 : 1 ≤ v
  · rw [if_pos h1, if_pos h1]
    by_cases h2 : v ≤ 30
    · rw [if_pos h2, if_pos h2]
      by_cases h3 : Sn 12 1 = 0
      · rw [if_pos h3, if_pos h3]
        exact nr h _ _
      · rw [if_neg h3, if_neg h3]
        by_cases h4 : Sn 12 0 = 0
        · rw [if_neg (fun q => q h4), if_neg (fun q => q h4)]
          exact nr h _ _
        · rw [if_pos h4, if_pos h4]
          exact nn h
    · rw [if_neg h2, if_neg h2]
      exact nr h _ _
  · rw [if_neg h1, if_neg h1]
    exact nr h _ _
theorem e_clear {Sn Sk T U S : St} {nP nL : Nat} {o t c u : Nat → Nat} (h : Rel Sn Sk T U S) (hB : BIn Sn S nP nL o t c u) : RelX (xf_clear Sn Sk T U) (mf_clear S) := by
  obtain ⟨hP, hP5, hL, hL7, hLk, hc1, hzd, hV, hA, hu, hu5, h6, hE⟩ := hB
  obtain ⟨⟨p1, l1, o1, t1', c1', u1, hB1⟩, ⟨nT, hT⟩, ⟨nR, r1, r2, r3, r4⟩, g4, g5, g6⟩ := h
  refine ⟨?_, ⟨p1, l1, o1, t1', c1', u1, hB1.eqS ?_⟩, ⟨nT, hT.cong ?_ ?_⟩, ⟨0, ?_, by omega, ?_, ?_⟩, ?_, ?_, ?_⟩
  · show S 12 6 = U 0 1
    rw [r1, r3]
  · have e9 := hB1.E
    exact ⟨fun k hk => by show sw S 12 6 0 k = _; rw [sw_ne _ _ _ (by omega)]; exact e9.1 k hk, fun k k1 k2 g hg => by show sw S 12 6 0 k g = _; rw [sw_ne _ _ _ (by omega)]; exact e9.2.1 k k1 k2 g hg, fun i hi => by show sw S 12 6 0 12 i = _; rw [swv, if_neg (by omega)]; exact e9.2.2 i hi⟩
  · show sw S 12 6 0 12 4 = _
    rw [swv, if_neg (by omega)]
  · show sw S 12 6 0 13 = S 13
    exact sw_ne _ _ _ (by decide)
  · show sw U 0 1 0 0 1 = nI 0
    rw [swv, if_pos ⟨rfl, rfl⟩]
    rfl
  · show sw S 12 6 0 12 6 = nI 0
    rw [swv, if_pos ⟨rfl, rfl⟩]
    rfl
  · show sw S 12 6 0 15 = sw U 0 1 0 1
    rw [sw_ne _ _ _ (by decide), sw_ne _ _ _ (by decide)]
    exact r4
  · show sw S 12 6 0 16 = sw U 0 1 0 2
    rw [sw_ne _ _ _ (by decide), sw_ne _ _ _ (by decide)]
    exact g4
  · show sw S 12 6 0 12 7 = sw U 0 1 0 0 0
    rw [swv, if_neg (by omega), swv, if_neg (by omega)]
    exact g5
  · intro hne
    have e0 : sw U 0 1 0 0 0 = U 0 0 := by rw [swv, if_neg (by omega)]
    show ∃ V, sw S 12 6 0 17 = pk V ∧ _
    rw [sw_ne _ _ _ (by decide)]
    exact g6 (fun q => hne (e0.trans q))
theorem e_image {Sn Sk T U S : St} {nP nL : Nat} {o t c u : Nat → Nat} (h : Rel Sn Sk T U S) (hB : BIn Sn S nP nL o t c u) : RelX (xf_image Sn T U) (mf_image S) := by
  obtain ⟨hP, hP5, hL, hL7, hLk, hc1, hzd, hV, hA, hu, hu5, h6, hE⟩ := hB
  obtain ⟨-, ⟨nT, hT⟩, ⟨nR, r1, r2, r3, r4⟩, g4, g5, g6⟩ := h
  have hlo : ∀ k, k ≠ 12 → k ≠ 17 → sr (sw S 12 7 1) 17 (pk (sw S 12 7 1)) k = S k := fun k h1 h2 => by rw [sr_ne _ _ h2, sw_ne _ _ _ h1]
  have h12 : ∀ j, j ≠ 7 → sr (sw S 12 7 1) 17 (pk (sw S 12 7 1)) 12 j = S 12 j := fun j hj => by rw [sr_ne _ _ (by decide), swv, if_neg (fun q => hj q.2)]
  have hE1 : Eq9 nL Sn (sr (sw S 12 7 1) 17 (pk (sw S 12 7 1))) := ⟨fun k hk => by rw [hlo k (by omega) (by omega)]; exact hE.1 k hk, fun k k1 k2 g hg => by rw [hlo k (by omega) (by omega)]; exact hE.2.1 k k1 k2 g hg, fun i hi => by rw [h12 i (by omega)]; exact hE.2.2 i hi⟩
  have hE2 : Eq9 nL Sn (sw S 12 7 1) := ⟨fun k hk => by rw [sw_ne _ _ _ (by omega)]; exact hE.1 k hk, fun k k1 k2 g hg => by rw [sw_ne _ _ _ (by omega)]; exact hE.2.1 k k1 k2 g hg, fun i hi => by rw [swv, if_neg (by omega)]; exact hE.2.2 i hi⟩
  refine ⟨?_, ⟨nP, nL, o, t, c, u, hP, hP5, hL, hL7, hLk, hc1, hzd, hV, hA, hu, hu5, h6, hE1⟩, ⟨nT, hT.cong (h12 4 (by decide)) (hlo 13 (by decide) (by decide))⟩, ⟨nR, ?_, r2, (h12 6 (by decide)).trans r3, ?_⟩, ?_, ?_, fun _ => ⟨sw S 12 7 1, (show sr (sw S 12 7 1) 17 (pk (sw S 12 7 1)) 17 = pk (sw S 12 7 1) from sr_eq _ _ _), nP, nL, o, t, c, u, hP, hP5, hL, hL7, hLk, hc1, hzd, hV, hA, hu, hu5, h6, hE2⟩⟩
  · exact hE.2.2 2 (by decide)
  · show sw U 0 0 1 0 1 = nI nR
    rw [swv, if_neg (by omega)]
    exact r1
  · show sr (sw S 12 7 1) 17 (pk (sw S 12 7 1)) 15 = sw U 0 0 1 1
    rw [hlo 15 (by decide) (by decide), sw_ne _ _ _ (by decide)]
    exact r4
  · show sr (sw S 12 7 1) 17 (pk (sw S 12 7 1)) 16 = sw U 0 0 1 2
    rw [hlo 16 (by decide) (by decide), sw_ne _ _ _ (by decide)]
    exact g4
  · show sr (sw S 12 7 1) 17 (pk (sw S 12 7 1)) 12 7 = sw U 0 0 1 0 0
    rw [sr_ne _ _ (by decide), swv, if_pos ⟨rfl, rfl⟩, swv, if_pos ⟨rfl, rfl⟩]
theorem e_count {Sn Sk T U S : St} {nP nL : Nat} {o t c u : Nat → Nat} (h : Rel Sn Sk T U S) (hB : BIn Sn S nP nL o t c u) {nT nR : Nat} (hT : TI T S nT) (hR : RI U S nR) (w : Int32) : RelX (xf_count Sn Sk T U w) (mf_count S w) := by
  obtain ⟨hP, hP5, hL, hL7, hLk, hc1, hzd, hV, hA, hu, hu5, h6, hE⟩ := hB
  obtain ⟨r1, r2, r3, r4⟩ := hR
  obtain ⟨t1, t2, t3, t4, t5⟩ := hT
  unfold xf_count mf_count
  by_cases k0 : w = 0
  · rw [if_pos k0, if_pos k0]
    exact nv h (hE.2.2 0 (by decide))
  · rw [if_neg k0, if_neg k0]
    by_cases k1 : w = 1
    · rw [if_pos k1, if_pos k1]
      exact nv h (hE.2.2 1 (by decide))
    · rw [if_neg k1, if_neg k1]
      by_cases k2 : w = 2
      · rw [if_pos k2, if_pos k2]
        exact nv h (hE.2.2 2 (by decide))
      · rw [if_neg k2, if_neg k2]
        by_cases k3 : w = 3
        · rw [if_pos k3, if_pos k3]
          exact nv h (smI_eq (hE.1 0 (by omega)) 6)
        · rw [if_neg k3, if_neg k3]
          by_cases k4 : w = 4
          · rw [if_pos k4, if_pos k4]
            exact nv h (smI_eq (hE.1 1 (by omega)) 6)
          · rw [if_neg k4, if_neg k4]
            by_cases k5 : w = 5
            · rw [if_pos k5, if_pos k5]
              exact nv h (hE.2.2 3 (by decide))
            · rw [if_neg k5, if_neg k5]
              by_cases k6 : w = 6
              · rw [if_pos k6, if_pos k6]
                exact nv h (r3.trans r1.symm)
              · rw [if_neg k6, if_neg k6]
                by_cases k7 : w = 7
                · rw [if_pos k7, if_pos k7]
                  exact nv h (t3.trans t1.symm)
                · rw [if_neg k7, if_neg k7]
                  by_cases h8 : w ≤ 10
                  · rw [if_pos h8, if_pos (show wthS w 11 16 = 0 by
                      unfold wthS
                      rw [if_pos]
                      rw [Int32.le_iff_toInt_le] at h8
                      rw [Int32.lt_iff_toInt_lt]
                      have j1 : (10 : Int32).toInt = 10 := by decide
                      have j2 : (11 : Int32).toInt = 11 := by decide
                      omega)]
                    exact nn h
                  · rw [if_neg h8]
                    by_cases h9 : 16 < w
                    · rw [if_pos h9, if_pos (show wthS w 11 16 = 0 by
                        unfold wthS
                        rw [if_pos h9]
                        split <;> rfl)]
                      exact nn h
                    · have hw : ¬ wthS w 11 16 = 0 := by
                        obtain ⟨j, j1, j2, rfl⟩ := cnt_of h8 h9
                        unfold wthS
                        rw [if_neg (show ¬ nI (j + 10) < 11 from nI_nlt (a := j + 10) (b := 11) (by omega) (by omega)), if_neg h9]
                        decide
                      rw [if_neg h9, if_neg hw]
                      exact nv h (by rw [h.2.2.2.1])
theorem e_on {Sn Sk T U S : St} {nP nL : Nat} {o t c u : Nat → Nat} (h : Rel Sn Sk T U S) (hB : BIn Sn S nP nL o t c u) : (mf_on S).1 = (xf_on Sn Sk T U).1 ∧ RelM (xf_on Sn Sk T U).2.1 (xf_on Sn Sk T U).2.2.1 (xf_on Sn Sk T U).2.2.2.1 (xf_on Sn Sk T U).2.2.2.2 (mf_on S).2 := by
  have h0 := h
  obtain ⟨-, ⟨nT, hT⟩, ⟨nR, hR⟩, g4, g5, g6⟩ := h
  unfold xf_on mf_on
  rw [g5]
  by_cases hu : U 0 0 = 0
  · rw [if_neg (fun q => q hu), if_neg (fun q => q hu)]
    exact ⟨rfl, RelM.of (h0.refu 3)⟩
  · rw [if_pos hu, if_pos hu]
    obtain ⟨V, e17, p1, l1, o1, t1, c1, u1, hK⟩ := g6 hu
    have hE := hK.E
    rw [e17]
    have hup : ∀ k j, (k = 0 ∨ k = 1 ∨ k = 11) ∧ j < 6 ∨ (2 ≤ k ∧ k ≤ 6) ∧ j < 7 ∨ (7 ≤ k ∧ k ≤ 10) ∧ j < 5 ∨ k = 12 ∧ j < 4 → up S (pk V) k j = V k j := fun k j hr => up_pk S V hr
    refine ⟨by show up S (pk V) 12 2 = Sk 12 2; rw [hup 12 2 (by omega)]; exact hE.2.2 2 (by decide), fun k => if k = 0 ∨ k = 1 ∨ (7 ≤ k ∧ k ≤ 11) then Sk k else up S (pk V) k, fun k hk j hj => ?_, ?_⟩
    · show up S (pk V) k j = (if k = 0 ∨ k = 1 ∨ (7 ≤ k ∧ k ≤ 11) then Sk k else up S (pk V) k) j
      by_cases hc : k = 0 ∨ k = 1 ∨ (7 ≤ k ∧ k ≤ 11)
      · rw [if_pos hc, ← hE.1 k hc]
        by_cases h11 : k = 11 ∧ j = 6
        · obtain ⟨rfl, rfl⟩ := h11
          rw [up_else S _ (by omega), hE.1 11 (by omega), hK.2.2.2.2.2.2.2.2.2.2.2.1, hB.E.1 11 (by omega)]
          exact hB.2.2.2.2.2.2.2.2.2.2.2.1
        · refine hup k j ?_
          rcases hc with rfl | rfl | hc
          · have : j < 6 := hj
            omega
          · have : j < 6 := hj
            omega
          · rcases (show k = 7 ∨ k = 8 ∨ k = 9 ∨ k = 10 ∨ k = 11 by omega) with rfl | rfl | rfl | rfl | rfl
            · have : j < 5 := hj
              omega
            · have : j < 5 := hj
              omega
            · have : j < 5 := hj
              omega
            · have : j < 5 := hj
              omega
            · have : j < 7 := hj
              omega
      · rw [if_neg hc]
    · have hhi : ∀ k, 13 ≤ k → (fun k => if k = 0 ∨ k = 1 ∨ (7 ≤ k ∧ k ≤ 11) then Sk k else up S (pk V) k) k = S k := fun k hk => by
        show (if k = 0 ∨ k = 1 ∨ (7 ≤ k ∧ k ≤ 11) then Sk k else up S (pk V) k) = S k
        rw [if_neg (by omega)]
        funext j
        exact up_out S (pk V) (by omega) j
      have h12 : ∀ j, 4 ≤ j → (fun k => if k = 0 ∨ k = 1 ∨ (7 ≤ k ∧ k ≤ 11) then Sk k else up S (pk V) k) 12 j = S 12 j := fun j hj => by
        show (if (12 : Nat) = 0 ∨ (12 : Nat) = 1 ∨ (7 ≤ (12 : Nat) ∧ (12 : Nat) ≤ 11) then Sk 12 else up S (pk V) 12) j = S 12 j
        rw [if_neg (by omega), up_else S _ (by omega)]
      refine ⟨⟨p1, l1, o1, t1, c1, u1, hK.eqS ⟨fun k hk => ?_, fun k k1 k2 g hg => ?_, fun j hj => ?_⟩⟩, ⟨nT, hT.cong (h12 4 (by omega)) (hhi 13 (by omega))⟩, ⟨nR, hR.cong (h12 6 (by omega)) (hhi 15 (by omega))⟩, (hhi 16 (by omega)).trans g4, (h12 7 (by omega)).trans g5, fun _ => ⟨V, (hhi 17 (by omega)).trans e17, p1, l1, o1, t1, c1, u1, hK⟩⟩
      · show (if k = 0 ∨ k = 1 ∨ (7 ≤ k ∧ k ≤ 11) then Sk k else up S (pk V) k) = Sk k
        rw [if_pos hk]
      · show (if k = 0 ∨ k = 1 ∨ (7 ≤ k ∧ k ≤ 11) then Sk k else up S (pk V) k) g = Sk k g
        have hl7 := hK.2.2.2.1
        rw [if_neg (by omega), hup k g (by omega)]
        exact hE.2.1 k k1 k2 g hg
      · show (if (12 : Nat) = 0 ∨ (12 : Nat) = 1 ∨ (7 ≤ (12 : Nat) ∧ (12 : Nat) ≤ 11) then Sk 12 else up S (pk V) 12) j = Sk 12 j
        rw [if_neg (by omega), hup 12 j (by omega)]
        exact hE.2.2 j hj
