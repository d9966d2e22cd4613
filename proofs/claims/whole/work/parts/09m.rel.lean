/-! The relation kept: monitors, a way moved, a line put in; the histories. -/
section MR2
variable {v : gV} {R : Nat → Int32}
theorem nI_m1 {a : Nat} (h : a < 2 ^ 31) : ¬ nI a = -1 := fun q => by
  have : ¬ nI a < 0 := nI_pos h
  rw [q] at this
  exact absurd (by decide) this
theorem lastm_at {pr : Nat → Bool} {p : Nat} (hp : pr p = true) : ∀ m, p < m → (∀ j, p < j → j < m → ¬ pr j = true) → lastm pr m = p
  | 0, h, _ => absurd h (Nat.not_lt_zero _)
  | m + 1, h, hn => by
    unfold lastm
    by_cases c : p = m
    · subst c
      rw [if_pos hp]
    · rw [if_neg (hn m (by omega) (by omega))]
      exact lastm_at hp m (by omega) (fun j h1 h2 => hn j h1 (by omega))
theorem lastm_no {pr : Nat → Bool} : ∀ m, (∀ j, j < m → ¬ pr j = true) → lastm pr m = 7
  | 0, _ => rfl
  | m + 1, hn => by
    unfold lastm
    rw [if_neg (hn m (by omega))]
    exact lastm_no m (fun j h => hn j (by omega))
theorem nAd_at (ad : Nat → Int32) (s a j : Nat) : nAd ad s a (s + j) = if j = 0 then nI a else if j ≤ nL ad s a then ad (s + (j - 1)) else ad (s + j) := by
  unfold nAd
  by_cases c : j = 0
  · rw [if_pos c, if_pos (by omega)]
  · rw [if_neg (by omega), if_neg c]
    by_cases c2 : j ≤ nL ad s a
    · rw [if_pos ⟨by omega, by omega⟩, if_pos c2, show s + j - 1 = s + (j - 1) by omega]
    · rw [if_neg (by omega), if_neg c2]
theorem nAd_out {ad : Nat → Int32} {s a j : Nat} (h : j < s ∨ s + 8 ≤ j) : nAd ad s a j = ad j := by
  have h7 : nL ad s a ≤ 7 := lastm_le _ (by omega)
  unfold nAd
  rw [if_neg (by omega), if_neg (by omega)]
theorem liK_ne {ad : Nat → Int32} {q n : Nat} (h : liK ad q n) {i j : Nat} (hi : i < n) (hj : j < n) (hne : ¬ i = j) : ¬ ad (q * 8 + i) = ad (q * 8 + j) := by
  by_cases c : i < j
  · exact h.2.2 i j c hj
  · exact fun e => h.2.2 j i (by omega) hi e.symm
theorem liK_no {ad : Nat → Int32} {q n a j : Nat} (ha : a < 256) (h : liK ad q n) (h1 : n ≤ j) (h2 : j < 8) : ¬ ad (q * 8 + j) = nI a := by
  rw [h.2.1 j h1 h2]
  exact fun e => nI_m1 (a := a) (by omega) e.symm
theorem liK_hit {ad : Nat → Int32} {q n a p : Nat} (ha : a < 256) (hn : n ≤ 8) (h : liK ad q n) (hp : p < n) (e : ad (q * 8 + p) = nI a) : nL ad (q * 8) a = p ∧ liK (nAd ad (q * 8) a) q n := by
  have e1 : nL ad (q * 8) a = p := lastm_at (by simpa using e) 8 (by omega) (fun j h1 h2 => by
    have : ¬ ad (q * 8 + j) = nI a := by
      by_cases c : j < n
      · rw [← e]
        exact liK_ne h c hp (by omega)
      · exact liK_no ha h (by omega) h2
    simpa using this)
  refine ⟨e1, fun j hj => ?_, fun j h1 h2 => ?_, fun i j hi hj => ?_⟩
  · rw [nAd_at, e1]
    split
    · exact ⟨a, ha, rfl⟩
    · split
      · exact h.1 (j - 1) (by omega)
      · exact h.1 j hj
  · rw [nAd_at, e1, if_neg (by omega), if_neg (by omega)]
    exact h.2.1 j h1 h2
  · have e2 : ∀ j, j < n → nAd ad (q * 8) a (q * 8 + j) = ad (q * 8 + (if j = 0 then p else if j ≤ p then j - 1 else j)) := fun j hj => by
      rw [nAd_at, e1]
      split
      · exact e.symm
      · split <;> rfl
    rw [e2 i (by omega), e2 j hj]
    refine liK_ne h ?_ ?_ ?_
    · split
      · exact hp
      · split <;> omega
    · split
      · exact hp
      · split <;> omega
    · repeat' split
      all_goals omega
theorem liK_new {ad : Nat → Int32} {q n a : Nat} (ha : a < 256) (hn : n ≤ 8) (h : liK ad q n) (hno : ∀ j, j < n → ¬ ad (q * 8 + j) = nI a) : nL ad (q * 8) a = 7 ∧ liK (nAd ad (q * 8) a) q (if n = 8 then 8 else n + 1) := by
  have e1 : nL ad (q * 8) a = 7 := lastm_no 8 (fun j h2 => by
    have : ¬ ad (q * 8 + j) = nI a := by
      by_cases c : j < n
      · exact hno j c
      · exact liK_no ha h (by omega) h2
    simpa using this)
  have hn' : (if n = 8 then 8 else n + 1) ≤ 8 ∧ (if n = 8 then 8 else n + 1) ≤ n + 1 ∧ n ≤ (if n = 8 then 8 else n + 1) ∧ 1 ≤ (if n = 8 then 8 else n + 1) ∧ (¬ (if n = 8 then 8 else n + 1) = 8 → (if n = 8 then 8 else n + 1) = n + 1) := by
    split <;> omega
  generalize (if n = 8 then 8 else n + 1) = m at hn'
  refine ⟨e1, fun j hj => ?_, fun j h1 h2 => ?_, fun i j hi hj => ?_⟩
  · rw [nAd_at, e1]
    split
    · exact ⟨a, ha, rfl⟩
    · rw [if_pos (by omega)]
      exact h.1 (j - 1) (by omega)
  · rw [nAd_at, e1, if_neg (by omega), if_pos (by omega)]
    exact h.2.1 (j - 1) (by omega) (by omega)
  · rw [nAd_at, nAd_at, e1, if_neg (show ¬ j = 0 by omega), if_pos (show j ≤ 7 by omega)]
    split
    · exact fun q => hno (j - 1) (by omega) q.symm
    · rw [if_pos (by omega)]
      exact h.2.2 (i - 1) (j - 1) (by omega) (by omega)
abbrev ntV (v : gV) (t a : Nat) : gV := (vOw v, vHd v, vSt v, ntAd v t a, ntGa v t a, vLe v, vCo v, vEp v, vAc v)
theorem ntV_odd {t a : Nat} (hev : ¬ a % 2 = 0) : ntV v t a = v := by
  unfold ntV ntAd ntGa
  rw [if_neg hev, if_neg hev]
theorem rl_wt (h : rl v R) {t a n : Nat} (ht : t < 4) (ha : a < 256) (hev : a % 2 = 0) (hn : R (72 + (t * 2 + a % 4 / 2)) = nI n) (hn8 : n ≤ 8) : rl (ntV v t a) (wtR R t a n) := by
  obtain ⟨h1, h2, h3, h4, h5, h6, h7, h8, h9⟩ := h
  have ea : ntAd v t a = nAd (vAd v) ((t * 2 + a % 4 / 2) * 8) a := if_pos hev
  have eg : ntGa v t a = nGa (vAd v) (vGa v) t ((t * 2 + a % 4 / 2) * 8) a := if_pos hev
  unfold ntV
  rw [ea, eg]
  have hw : ∀ j, wtR R t a n j = if j = 80 + 9 * (t * 2 + a % 4 / 2) + 8 then nI 0 else if j = 80 + 9 * (t * 2 + a % 4 / 2) then nI a else if 80 + 9 * (t * 2 + a % 4 / 2) + 0 < j ∧ j ≤ 80 + 9 * (t * 2 + a % 4 / 2) + wtP R (80 + 9 * (t * 2 + a % 4 / 2)) a n then wt1 R t (t * 2 + a % 4 / 2) n (wtP R (80 + 9 * (t * 2 + a % 4 / 2)) a n) (j - 1) else wt1 R t (t * 2 + a % 4 / 2) n (wtP R (80 + 9 * (t * 2 + a % 4 / 2)) a n) j := fun j => rfl
  generalize hq : t * 2 + a % 4 / 2 = q at hw hn ⊢
  have hq8 : q < 8 := by omega
  obtain ⟨m, hm8, hm, hli, hre⟩ := h4 q hq8
  have hmn : m = n := (nI_eq (by omega) (by omega)).mp (hm.symm.trans hn)
  subst hmn
  have hP : wtP R (80 + 9 * q) a m ≤ m := fst1_le _ _
  generalize hp : wtP R (80 + 9 * q) a m = p at hw hP
  generalize wtR R t a m = R' at hw ⊢
  by_cases c : p < m
  · -- the address is in the list
    have hap : vAd v (q * 8 + p) = nI a := by
      have := fst1_yes (p := fun j => decide (R (80 + 9 * q + j) = nI a)) (n := m) (by rw [show fst1 _ m = p from hp]; exact c)
      rw [show fst1 (fun j => decide (R (80 + 9 * q + j) = nI a)) m = p from hp] at this
      rw [← hre p c]
      simpa using this
    obtain ⟨e1, hli2⟩ := liK_hit ha hm8 hli c hap
    have e2 : wt1 R t q m p = upd R (152 + t * 8 + p) (R (152 + t * 8 + p) + nI 1) := if_pos c
    rw [e2] at hw
    have n : ∀ j, (j < 80 ∨ (152 ≤ j ∧ ¬ j = 152 + t * 8 + p)) → R' j = R j := fun j hj => by
      rw [hw, if_neg (by omega), if_neg (by omega), if_neg (by omega), pk_un (by omega)]
    refine ⟨fun u hu => (n u (by omega)).trans (h1 u hu), fun p hp => (n (8 + p) (by omega)).trans (h2 p hp), fun p hp hq => (n (40 + p) (by omega)).trans (h3 p hp hq), fun u hu => ?_, fun j hj => ?_, fun t ht => (n (184 + t) (by omega)).trans (h6 t ht), (n 188 (by omega)).trans h7, (n 189 (by omega)).trans h8, fun j hj => (n (190 + j) (by omega)).trans (h9 j hj)⟩
    · by_cases cq : u = q
      · subst cq
        refine ⟨m, hm8, (n _ (by omega)).trans hn, hli2, fun j hj => ?_⟩
        show _ = nAd (vAd v) (u * 8) a (u * 8 + j)
        rw [nAd_at, e1, hw, if_neg (by omega)]
        by_cases c0 : j = 0
        · rw [if_pos c0, if_pos (by omega)]
        · rw [if_neg c0, if_neg (by omega)]
          by_cases c1 : j ≤ p
          · rw [if_pos c1, if_pos ⟨by omega, by omega⟩, pk_un (by omega), show 80 + 9 * u + j - 1 = 80 + 9 * u + (j - 1) by omega]
            exact hre (j - 1) (by omega)
          · rw [if_neg c1, if_neg (by omega), pk_un (by omega)]
            exact hre j hj
      · obtain ⟨m2, k1, k2, k3, k4⟩ := h4 u hu
        have o : ∀ j, j < 8 → nAd (vAd v) (q * 8) a (u * 8 + j) = vAd v (u * 8 + j) := fun j hj => nAd_out (by omega)
        refine ⟨m2, k1, (n _ (by omega)).trans k2, ⟨fun j hj => ?_, fun j l1 l2 => ?_, fun i j hi hj => ?_⟩, fun j hj => ?_⟩
        · show ∃ b, b < 256 ∧ nAd (vAd v) (q * 8) a (u * 8 + j) = nI b
          rw [o j (by omega)]
          exact k3.1 j hj
        · show nAd (vAd v) (q * 8) a (u * 8 + j) = -1
          rw [o j l2]
          exact k3.2.1 j l1 l2
        · show ¬ nAd (vAd v) (q * 8) a (u * 8 + i) = nAd (vAd v) (q * 8) a (u * 8 + j)
          rw [o i (by omega), o j (by omega)]
          exact k3.2.2 i j hi hj
        · show R' (80 + 9 * u + j) = nAd (vAd v) (q * 8) a (u * 8 + j)
          rw [o j (by omega), hw, if_neg (by omega), if_neg (by omega), if_neg (by omega), pk_un (by omega)]
          exact k4 j hj
    · show R' (152 + j) = nGa (vAd v) (vGa v) t (q * 8) a j
      unfold nGa
      by_cases cj : j = t * 8 + p
      · have : 152 + j = 152 + t * 8 + p := by omega
        rw [if_pos ⟨by omega, by omega, by rw [show j - 8 * t = p by omega]; exact hap⟩, hw, if_neg (by omega), if_neg (by omega), if_neg (by omega), this, pk_us, ← this]
        exact congrArg (· + nI 1) (h5 j hj)
      · have : ¬ (8 * t ≤ j ∧ j < 8 * t + 8 ∧ vAd v (q * 8 + (j - 8 * t)) = nI a) := fun ⟨l1, l2, l3⟩ => by
          by_cases l4 : j - 8 * t < m
          · rw [← hap] at l3
            exact liK_ne hli l4 c (by omega) l3
          · exact liK_no ha hli (by omega) (by omega) l3
        rw [if_neg this]
        exact (n _ (by omega)).trans (h5 j hj)
  · -- it isn't
    have hpm : p = m := by omega
    have hno : ∀ j, j < m → ¬ vAd v (q * 8 + j) = nI a := fun j hj => by
      rw [← hre j hj]
      have := fst1_no (p := fun j => decide (R (80 + 9 * q + j) = nI a)) (n := m) (j := j) (by rw [show fst1 _ m = p from hp]; omega)
      simpa using this
    obtain ⟨e1, hli2⟩ := liK_new ha hm8 hli hno
    have e2 : wt1 R t q m p = upd R (72 + q) (nI (if m = 8 then 8 else m + 1)) := if_neg c
    rw [e2] at hw
    have n : ∀ j, ((j < 80 ∧ ¬ j = 72 + q) ∨ 152 ≤ j) → R' j = R j := fun j hj => by
      rw [hw, if_neg (by omega), if_neg (by omega), if_neg (by omega), pk_un (by omega)]
    refine ⟨fun u hu => (n u (by omega)).trans (h1 u hu), fun p hp => (n (8 + p) (by omega)).trans (h2 p hp), fun p hp hq => (n (40 + p) (by omega)).trans (h3 p hp hq), fun u hu => ?_, fun j hj => ?_, fun t ht => (n (184 + t) (by omega)).trans (h6 t ht), (n 188 (by omega)).trans h7, (n 189 (by omega)).trans h8, fun j hj => (n (190 + j) (by omega)).trans (h9 j hj)⟩
    · by_cases cq : u = q
      · subst cq
        have hn' : (if m = 8 then 8 else m + 1) ≤ 8 ∧ (if m = 8 then 8 else m + 1) ≤ m + 1 := by split <;> omega
        refine ⟨(if m = 8 then 8 else m + 1), hn'.1, ?_, hli2, fun j hj => ?_⟩
        · rw [hw, if_neg (by omega), if_neg (by omega), if_neg (by omega), pk_us]
        · show _ = nAd (vAd v) (u * 8) a (u * 8 + j)
          rw [nAd_at, e1, hw, if_neg (by omega)]
          by_cases c0 : j = 0
          · rw [if_pos c0, if_pos (by omega)]
          · rw [if_neg c0, if_neg (by omega), if_pos (show j ≤ 7 by omega), if_pos ⟨by omega, by omega⟩, pk_un (by omega), show 80 + 9 * u + j - 1 = 80 + 9 * u + (j - 1) by omega]
            exact hre (j - 1) (by omega)
      · obtain ⟨m2, k1, k2, k3, k4⟩ := h4 u hu
        have o : ∀ j, j < 8 → nAd (vAd v) (q * 8) a (u * 8 + j) = vAd v (u * 8 + j) := fun j hj => nAd_out (by omega)
        refine ⟨m2, k1, (n _ (by omega)).trans k2, ⟨fun j hj => ?_, fun j l1 l2 => ?_, fun i j hi hj => ?_⟩, fun j hj => ?_⟩
        · show ∃ b, b < 256 ∧ nAd (vAd v) (q * 8) a (u * 8 + j) = nI b
          rw [o j (by omega)]
          exact k3.1 j hj
        · show nAd (vAd v) (q * 8) a (u * 8 + j) = -1
          rw [o j l2]
          exact k3.2.1 j l1 l2
        · show ¬ nAd (vAd v) (q * 8) a (u * 8 + i) = nAd (vAd v) (q * 8) a (u * 8 + j)
          rw [o i (by omega), o j (by omega)]
          exact k3.2.2 i j hi hj
        · show R' (80 + 9 * u + j) = nAd (vAd v) (q * 8) a (u * 8 + j)
          rw [o j (by omega), hw, if_neg (by omega), if_neg (by omega), if_neg (by omega), pk_un (by omega)]
          exact k4 j hj
    · show R' (152 + j) = nGa (vAd v) (vGa v) t (q * 8) a j
      unfold nGa
      have : ¬ (8 * t ≤ j ∧ j < 8 * t + 8 ∧ vAd v (q * 8 + (j - 8 * t)) = nI a) := fun ⟨l1, l2, l3⟩ => by
        by_cases l4 : j - 8 * t < m
        · exact hno _ l4 l3
        · exact liK_no ha hli (by omega) (by omega) l3
      rw [if_neg this]
      exact (n _ (by omega)).trans (h5 j hj)
theorem rl_mv (h : rl v R) (L : Nat → Nat) : rl (mvV L v) (mvR L R) := by
  have hm := amax_le (mvD L v) 3
  unfold mvR
  rw [rl_mvWR h, rl_dR h]
  cases hw : mvW L v with
  | none =>
    have e : mvO L v = vOw v := by unfold mvO; rw [hw]
    unfold mvV
    rw [e]
    exact h
  | some p =>
    have e : mvO L v = upd (vOw v) p (nI (amax (mvD L v) 3)) := by unfold mvO; rw [hw]
    have hp : p < 8 := by
      unfold mvW at hw
      split at hw
      · cases hw
      · exact wfl_lt 8 0 none 5 p (by omega) (fun q hq => by cases hq) hw
    unfold mvV
    rw [e]
    exact rl_ow h hp
theorem evC_co {hd co : Nat → Int32} {p i : Nat} (hi : ¬ i % 4 = 3) : evC hd p 4 (upd co i (co i + nI 1)) = upd (evC hd p 4 co) i (evC hd p 4 co i + nI 1) := by
  have e0 : evC hd p 4 co i = co i := if_neg (fun z => hi z.1)
  funext j
  rw [e0]
  by_cases c : j = i
  · rw [c, pk_us]
    show (if i % 4 = 3 ∧ _ then _ else _) = _
    rw [if_neg (fun z => hi z.1), pk_us]
  · rw [pk_un c]
    unfold evC
    rw [pk_un c]
theorem rl_pu (h : rl v R) {t a p : Nat} (hp : p < 32) : rl (brQ v t a p) (puR R t a p) := by
  have h1 := rl_ev h hp
  have h2 := rl_put (x := nI t * nI 256 + nI a) (y := vAc v) h1 hp
  have e : upd (upd (evR R p) (8 + p) (nI t * nI 256 + nI a)) (40 + p) (vAc v) = puR R t a p := by
    unfold puR
    rw [h.2.2.2.2.2.2.2.1]
  rw [e] at h2
  exact h2
-- a donor has a way
theorem amax_max (d : Nat → Int32) : ∀ n j, j ≤ n → ¬ d (amax d n) < d j
  | 0, j, h => by
    have : j = 0 := by omega
    subst this
    exact Int32.lt_irrefl
  | n + 1, j, h => by
    have ih := fun j hj => amax_max d n j hj
    unfold amax
    by_cases c : d (amax d n) < d (n + 1)
    · rw [if_pos c]
      by_cases hj : j = n + 1
      · rw [hj]
        exact Int32.lt_irrefl
      · have := ih j (by omega)
        exact fun q => this (Int32.lt_trans c q)
    · rw [if_neg c]
      by_cases hj : j = n + 1
      · rw [hj]
        exact c
      · exact ih j (by omega)
theorem amin_min (d : Nat → Int32) : ∀ n j, j ≤ n → ¬ d j < d (amin d n)
  | 0, j, h => by
    have : j = 0 := by omega
    subst this
    exact Int32.lt_irrefl
  | n + 1, j, h => by
    have ih := fun j hj => amin_min d n j hj
    unfold amin
    by_cases c : d (n + 1) < d (amin d n)
    · rw [if_pos c]
      by_cases hj : j = n + 1
      · rw [hj]
        exact Int32.lt_irrefl
      · have := ih j (by omega)
        exact fun q => this (Int32.lt_trans q c)
    · rw [if_neg c]
      by_cases hj : j = n + 1
      · rw [hj]
        exact c
      · exact ih j (by omega)
theorem own_sum {ow : Nat → Int32} : ∀ n, (∀ w, w < n → ∃ t, t < 4 ∧ ow w = nI t) → cnt (fun w => decide (ow w = nI 0)) n + cnt (fun w => decide (ow w = nI 1)) n + cnt (fun w => decide (ow w = nI 2)) n + cnt (fun w => decide (ow w = nI 3)) n = n
  | 0, _ => rfl
  | n + 1, h => by
    have ih := own_sum n (fun w hw => h w (by omega))
    obtain ⟨t, ht, e⟩ := h n (by omega)
    have s : ∀ x, cnt (fun w => decide (ow w = x)) (n + 1) = if ow n = x then cnt (fun w => decide (ow w = x)) n + 1 else cnt (fun w => decide (ow w = x)) n := fun x => by
      show (if decide (ow n = x) = true then _ else _) = _
      simp only [decide_eq_true_iff]
    rw [s, s, s, s, e]
    have c : t = 0 ∨ t = 1 ∨ t = 2 ∨ t = 3 := by omega
    rcases c with rfl | rfl | rfl | rfl
    · rw [if_pos rfl, if_neg (by decide), if_neg (by decide), if_neg (by decide)]
      omega
    · rw [if_neg (by decide), if_pos rfl, if_neg (by decide), if_neg (by decide)]
      omega
    · rw [if_neg (by decide), if_neg (by decide), if_pos rfl, if_neg (by decide)]
      omega
    · rw [if_neg (by decide), if_neg (by decide), if_neg (by decide), if_pos rfl]
      omega
theorem wfl_some {ow : Nat → Int32} {ln : Nat → Nat} {t : Int32} : ∀ (f w : Nat) (b m : Nat), ¬ wfl ow ln t f w (some b) m = none
  | 0, _, _, _ => fun h => by cases h
  | f + 1, w, b, m => by
    unfold wfl
    split
    · exact wfl_some f (w + 1) w _
    · exact wfl_some f (w + 1) b m
theorem wfl_none {ow : Nat → Int32} {ln : Nat → Nat} {t : Int32} (hl : ∀ q, ln q ≤ 4) : ∀ (f w : Nat), wfl ow ln t f w none 5 = none → ∀ u, w ≤ u → u < w + f → ¬ ow u = t
  | 0, w, _, u, h1, h2 => absurd h2 (by omega)
  | f + 1, w, h, u, h1, h2 => by
    unfold wfl at h
    split at h
    · exact absurd h (wfl_some f (w + 1) w _)
    · rename_i c
      by_cases hu : u = w
      · rw [hu]
        exact fun q => c ⟨q, by have := hl w; omega⟩
      · exact wfl_none hl f (w + 1) h u (by omega) (by omega)
theorem cnt_0 {p : Nat → Bool} : ∀ {n : Nat}, (∀ j, j < n → ¬ p j = true) → cnt p n = 0
  | 0, _ => rfl
  | n + 1, h => by
    rw [cnt_f (h n (by omega))]
    exact cnt_0 (fun j hj => h j (by omega))
theorem mv_some (hk : vK v) {L : Nat → Nat} (hL : ∀ t, t < 4 → vLe v t = nI (L t) ∧ L t ≤ 2) (hne : ¬ mvD L v (amax (mvD L v) 3) = 0) : ¬ mvW L v = none := by
  intro h0
  have hm := amax_le (mvD L v) 3
  have hm2 := amin_le (mvD L v) 3
  have hmn := amin_min (mvD L v) 3
  have hs : sumN (tgt L (vGa v)) 4 = 8 := tgt_sum (by
    have a0 := (hL 0 (by decide)).2
    have a1 := (hL 1 (by decide)).2
    have a2 := (hL 2 (by decide)).2
    have a3 := (hL 3 (by decide)).2
    simp only [sumN]
    omega)
  have ho := own_sum (ow := vOw v) 8 hk.1
  have hD : ∀ t, mvD L v t = nI (tgt L (vGa v) t) - nI (fOwn (vOw v) (nI t)) := fun t => rfl
  have hO8 : ∀ t, fOwn (vOw v) (nI t) ≤ 8 := fun t => cnt_le _ 8
  have hT8 : ∀ t, t < 4 → tgt L (vGa v) t ≤ 8 := fun t ht => by
    have := sum_le (W := tgt L (vGa v)) ht
    omega
  have hi : ∀ t, t < 4 → (mvD L v t).toInt = (tgt L (vGa v) t : Int) - (fOwn (vOw v) (nI t) : Int) := fun t ht => by
    have := hT8 t ht
    have := hO8 t
    rw [hD]
    exact pk_sub_toInt (by omega) (by omega)
  unfold mvW at h0
  rw [if_neg hne] at h0
  have hno : fOwn (vOw v) (nI (amin (mvD L v) 3)) = 0 := cnt_0 (fun j hj => by
    have := wfl_none (fun q => lnW_le _ _ q) 8 0 h0 j (by omega) (by omega)
    simpa using this)
  have hle : ∀ t, t < 4 → fOwn (vOw v) (nI t) ≤ tgt L (vGa v) t := fun t ht => by
    have h1 := hmn t (by omega)
    rw [Int32.lt_iff_toInt_lt, hi t ht, hi _ (by omega), hno] at h1
    omega
  have l0 := hle 0 (by decide)
  have l1 := hle 1 (by decide)
  have l2 := hle 2 (by decide)
  have l3 := hle 3 (by decide)
  have ho2 : fOwn (vOw v) (nI 0) + fOwn (vOw v) (nI 1) + fOwn (vOw v) (nI 2) + fOwn (vOw v) (nI 3) = 8 := ho
  simp only [sumN] at hs
  have heq : ∀ t, t < 4 → fOwn (vOw v) (nI t) = tgt L (vGa v) t := fun t ht => by
    have c : t = 0 ∨ t = 1 ∨ t = 2 ∨ t = 3 := by omega
    rcases c with rfl | rfl | rfl | rfl <;> omega
  refine hne ?_
  rw [hD, heq _ (by omega)]
  exact Int32.sub_self _
end MR2
