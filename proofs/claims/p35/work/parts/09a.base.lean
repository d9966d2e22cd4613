/-! The class's state: rows that whole's proof has too. -/
section PB1
def liK (ad : Nat → Int32) (q n : Nat) : Prop := (∀ j, j < n → ∃ a, a < 256 ∧ ad (q * 8 + j) = nI a) ∧ (∀ j, n ≤ j → j < 8 → ad (q * 8 + j) = -1) ∧ (∀ i j, i < j → j < n → ¬ ad (q * 8 + i) = ad (q * 8 + j))
def vK (v : gV) : Prop := (∀ w, w < 8 → ∃ t, t < 4 ∧ vOw v w = nI t) ∧ (∀ p, p < 32 → vHd v p = -1 ∨ ∃ c, c < 1024 ∧ vHd v p = nI c) ∧ (∀ t, t < 4 → ∃ l, l ≤ 2 ∧ vLe v t = nI l) ∧ ∃ e, e ≤ 200 ∧ vEp v = nI e
variable {v : gV}
theorem nI_m1 {a : Nat} (h : a < 2 ^ 31) : ¬ nI a = -1 := fun q => by
  have : ¬ nI a < 0 := nI_pos h
  rw [q] at this
  exact absurd (by decide) this
theorem lastm_at {pr : Nat → Bool} {p : Nat} (hp : pr p = true) : ∀ m, p < m → (∀ j, p < j → j < m → ¬ pr j = true) → lastm pr m = p
  | 0, h, _ => absurd h (Nat.not_lt_zero _)
  | m + 1, h, hn => by
    unfold lastm
    by_cases c : p = m
    · subst c
      rw [if_pos hp]
    · rw [if_neg (hn m (by omega) (by omega))]
      exact lastm_at hp m (by omega) (fun j h1 h2 => hn j h1 (by omega))
theorem lastm_no {pr : Nat → Bool} : ∀ m, (∀ j, j < m → ¬ pr j = true) → lastm pr m = 7
  | 0, _ => rfl
  | m + 1, hn => by
    unfold lastm
    rw [if_neg (hn m (by omega))]
    exact lastm_no m (fun j h => hn j (by omega))
theorem nAd_at (ad : Nat → Int32) (s a j : Nat) : nAd ad s a (s + j) = if j = 0 then nI a else if j ≤ nL ad s a then ad (s + (j - 1)) else ad (s + j) := by
  unfold nAd
  by_cases c : j = 0
  · rw [if_pos c, if_pos (by omega)]
  · rw [if_neg (by omega), if_neg c]
    by_cases c2 : j ≤ nL ad s a
    · rw [if_pos ⟨by omega, by omega⟩, if_pos c2, show s + j - 1 = s + (j - 1) by omega]
    · rw [if_neg (by omega), if_neg c2]
theorem nAd_out {ad : Nat → Int32} {s a j : Nat} (h : j < s ∨ s + 8 ≤ j) : nAd ad s a j = ad j := by
  have h7 : nL ad s a ≤ 7 := lastm_le _ (by omega)
  unfold nAd
  rw [if_neg (by omega), if_neg (by omega)]
theorem liK_ne {ad : Nat → Int32} {q n : Nat} (h : liK ad q n) {i j : Nat} (hi : i < n) (hj : j < n) (hne : ¬ i = j) : ¬ ad (q * 8 + i) = ad (q * 8 + j) := by
  by_cases c : i < j
  · exact h.2.2 i j c hj
  · exact fun e => h.2.2 j i (by omega) hi e.symm
theorem liK_no {ad : Nat → Int32} {q n a j : Nat} (ha : a < 256) (h : liK ad q n) (h1 : n ≤ j) (h2 : j < 8) : ¬ ad (q * 8 + j) = nI a := by
  rw [h.2.1 j h1 h2]
  exact fun e => nI_m1 (a := a) (by omega) e.symm
theorem liK_hit {ad : Nat → Int32} {q n a p : Nat} (ha : a < 256) (hn : n ≤ 8) (h : liK ad q n) (hp : p < n) (e : ad (q * 8 + p) = nI a) : nL ad (q * 8) a = p ∧ liK (nAd ad (q * 8) a) q n := by
  have e1 : nL ad (q * 8) a = p := lastm_at (by simpa using e) 8 (by omega) (fun j h1 h2 => by
    have : ¬ ad (q * 8 + j) = nI a := by
      by_cases c : j < n
      · rw [← e]
        exact liK_ne h c hp (by omega)
      · exact liK_no ha h (by omega) h2
    simpa using this)
  refine ⟨e1, fun j hj => ?_, fun j h1 h2 => ?_, fun i j hi hj => ?_⟩
  · rw [nAd_at, e1]
    split
    · exact ⟨a, ha, rfl⟩
    · split
      · exact h.1 (j - 1) (by omega)
      · exact h.1 j hj
  · rw [nAd_at, e1, if_neg (by omega), if_neg (by omega)]
    exact h.2.1 j h1 h2
  · have e2 : ∀ j, j < n → nAd ad (q * 8) a (q * 8 + j) = ad (q * 8 + (if j = 0 then p else if j ≤ p then j - 1 else j)) := fun j hj => by
      rw [nAd_at, e1]
      split
      · exact e.symm
      · split <;> rfl
    rw [e2 i (by omega), e2 j hj]
    refine liK_ne h ?_ ?_ ?_
    · split
      · exact hp
      · split <;> omega
    · split
      · exact hp
      · split <;> omega
    · repeat' split
      all_goals omega
theorem liK_new {ad : Nat → Int32} {q n a : Nat} (ha : a < 256) (hn : n ≤ 8) (h : liK ad q n) (hno : ∀ j, j < n → ¬ ad (q * 8 + j) = nI a) : nL ad (q * 8) a = 7 ∧ liK (nAd ad (q * 8) a) q (if n = 8 then 8 else n + 1) := by
  have e1 : nL ad (q * 8) a = 7 := lastm_no 8 (fun j h2 => by
    have : ¬ ad (q * 8 + j) = nI a := by
      by_cases c : j < n
      · exact hno j c
      · exact liK_no ha h (by omega) h2
    simpa using this)
  have hn' : (if n = 8 then 8 else n + 1) ≤ 8 ∧ (if n = 8 then 8 else n + 1) ≤ n + 1 ∧ n ≤ (if n = 8 then 8 else n + 1) ∧ 1 ≤ (if n = 8 then 8 else n + 1) ∧ (¬ (if n = 8 then 8 else n + 1) = 8 → (if n = 8 then 8 else n + 1) = n + 1) := by
    split <;> omega
  generalize (if n = 8 then 8 else n + 1) = m at hn'
  refine ⟨e1, fun j hj => ?_, fun j h1 h2 => ?_, fun i j hi hj => ?_⟩
  · rw [nAd_at, e1]
    split
    · exact ⟨a, ha, rfl⟩
    · rw [if_pos (by omega)]
      exact h.1 (j - 1) (by omega)
  · rw [nAd_at, e1, if_neg (by omega), if_pos (by omega)]
    exact h.2.1 (j - 1) (by omega) (by omega)
  · rw [nAd_at, nAd_at, e1, if_neg (show ¬ j = 0 by omega), if_pos (show j ≤ 7 by omega)]
    split
    · exact fun q => hno (j - 1) (by omega) q.symm
    · rw [if_pos (by omega)]
      exact h.2.2 (i - 1) (j - 1) (by omega) (by omega)
theorem evC_co {hd co : Nat → Int32} {p i : Nat} (hi : ¬ i % 4 = 3) : evC hd p 4 (upd co i (co i + nI 1)) = upd (evC hd p 4 co) i (evC hd p 4 co i + nI 1) := by
  have e0 : evC hd p 4 co i = co i := if_neg (fun z => hi z.1)
  funext j
  rw [e0]
  by_cases c : j = i
  · rw [c, pk_us]
    show (if i % 4 = 3 ∧ _ then _ else _) = _
    rw [if_neg (fun z => hi z.1), pk_us]
  · rw [pk_un c]
    unfold evC
    rw [pk_un c]
theorem amax_max (d : Nat → Int32) : ∀ n j, j ≤ n → ¬ d (amax d n) < d j
  | 0, j, h => by
    have : j = 0 := by omega
    subst this
    exact Int32.lt_irrefl
  | n + 1, j, h => by
    have ih := fun j hj => amax_max d n j hj
    unfold amax
    by_cases c : d (amax d n) < d (n + 1)
    · rw [if_pos c]
      by_cases hj : j = n + 1
      · rw [hj]
        exact Int32.lt_irrefl
      · have := ih j (by omega)
        exact fun q => this (Int32.lt_trans c q)
    · rw [if_neg c]
      by_cases hj : j = n + 1
      · rw [hj]
        exact c
      · exact ih j (by omega)
theorem amin_min (d : Nat → Int32) : ∀ n j, j ≤ n → ¬ d j < d (amin d n)
  | 0, j, h => by
    have : j = 0 := by omega
    subst this
    exact Int32.lt_irrefl
  | n + 1, j, h => by
    have ih := fun j hj => amin_min d n j hj
    unfold amin
    by_cases c : d (n + 1) < d (amin d n)
    · rw [if_pos c]
      by_cases hj : j = n + 1
      · rw [hj]
        exact Int32.lt_irrefl
      · have := ih j (by omega)
        exact fun q => this (Int32.lt_trans q c)
    · rw [if_neg c]
      by_cases hj : j = n + 1
      · rw [hj]
        exact c
      · exact ih j (by omega)
theorem own_sum {ow : Nat → Int32} : ∀ n, (∀ w, w < n → ∃ t, t < 4 ∧ ow w = nI t) → cnt (fun w => decide (ow w = nI 0)) n + cnt (fun w => decide (ow w = nI 1)) n + cnt (fun w => decide (ow w = nI 2)) n + cnt (fun w => decide (ow w = nI 3)) n = n
  | 0, _ => rfl
  | n + 1, h => by
    have ih := own_sum n (fun w hw => h w (by omega))
    obtain ⟨t, ht, e⟩ := h n (by omega)
    have s : ∀ x, cnt (fun w => decide (ow w = x)) (n + 1) = if ow n = x then cnt (fun w => decide (ow w = x)) n + 1 else cnt (fun w => decide (ow w = x)) n := fun x => by
      show (if decide (ow n = x) = true then _ else _) = _
      simp only [decide_eq_true_iff]
    rw [s, s, s, s, e]
    have c : t = 0 ∨ t = 1 ∨ t = 2 ∨ t = 3 := by omega
    rcases c with rfl | rfl | rfl | rfl
    · rw [if_pos rfl, if_neg (by decide), if_neg (by decide), if_neg (by decide)]
      omega
    · rw [if_neg (by decide), if_pos rfl, if_neg (by decide), if_neg (by decide)]
      omega
    · rw [if_neg (by decide), if_neg (by decide), if_pos rfl, if_neg (by decide)]
      omega
    · rw [if_neg (by decide), if_neg (by decide), if_neg (by decide), if_pos rfl]
      omega
theorem wfl_some {ow : Nat → Int32} {ln : Nat → Nat} {t : Int32} : ∀ (f w : Nat) (b m : Nat), ¬ wfl ow ln t f w (some b) m = none
  | 0, _, _, _ => fun h => by cases h
  | f + 1, w, b, m => by
    unfold wfl
    split
    · exact wfl_some f (w + 1) w _
    · exact wfl_some f (w + 1) b m
theorem wfl_none {ow : Nat → Int32} {ln : Nat → Nat} {t : Int32} (hl : ∀ q, ln q ≤ 4) : ∀ (f w : Nat), wfl ow ln t f w none 5 = none → ∀ u, w ≤ u → u < w + f → ¬ ow u = t
  | 0, w, _, u, h1, h2 => absurd h2 (by omega)
  | f + 1, w, h, u, h1, h2 => by
    unfold wfl at h
    split at h
    · exact absurd h (wfl_some f (w + 1) w _)
    · rename_i c
      by_cases hu : u = w
      · rw [hu]
        exact fun q => c ⟨q, by have := hl w; omega⟩
      · exact wfl_none hl f (w + 1) h u (by omega) (by omega)
theorem cnt_0 {p : Nat → Bool} : ∀ {n : Nat}, (∀ j, j < n → ¬ p j = true) → cnt p n = 0
  | 0, _ => rfl
  | n + 1, h => by
    rw [cnt_f (h n (by omega))]
    exact cnt_0 (fun j hj => h j (by omega))
theorem mv_some (hk : vK v) {L : Nat → Nat} (hL : ∀ t, t < 4 → vLe v t = nI (L t) ∧ L t ≤ 2) (hne : ¬ mvD L v (amax (mvD L v) 3) = 0) : ¬ mvW L v = none := by
  intro h0
  have hm := amax_le (mvD L v) 3
  have hm2 := amin_le (mvD L v) 3
  have hmn := amin_min (mvD L v) 3
  have hs : sumN (tgt L (vGa v)) 4 = 8 := tgt_sum (by
    have a0 := (hL 0 (by decide)).2
    have a1 := (hL 1 (by decide)).2
    have a2 := (hL 2 (by decide)).2
    have a3 := (hL 3 (by decide)).2
    simp only [sumN]
    omega)
  have ho := own_sum (ow := vOw v) 8 hk.1
  have hD : ∀ t, mvD L v t = nI (tgt L (vGa v) t) - nI (fOwn (vOw v) (nI t)) := fun t => rfl
  have hO8 : ∀ t, fOwn (vOw v) (nI t) ≤ 8 := fun t => cnt_le _ 8
  have hT8 : ∀ t, t < 4 → tgt L (vGa v) t ≤ 8 := fun t ht => by
    have := sum_le (W := tgt L (vGa v)) ht
    omega
  have hi : ∀ t, t < 4 → (mvD L v t).toInt = (tgt L (vGa v) t : Int) - (fOwn (vOw v) (nI t) : Int) := fun t ht => by
    have := hT8 t ht
    have := hO8 t
    rw [hD]
    exact pk_sub_toInt (by omega) (by omega)
  unfold mvW at h0
  rw [if_neg hne] at h0
  have hno : fOwn (vOw v) (nI (amin (mvD L v) 3)) = 0 := cnt_0 (fun j hj => by
    have := wfl_none (fun q => lnW_le _ _ q) 8 0 h0 j (by omega) (by omega)
    simpa using this)
  have hle : ∀ t, t < 4 → fOwn (vOw v) (nI t) ≤ tgt L (vGa v) t := fun t ht => by
    have h1 := hmn t (by omega)
    rw [Int32.lt_iff_toInt_lt, hi t ht, hi _ (by omega), hno] at h1
    omega
  have l0 := hle 0 (by decide)
  have l1 := hle 1 (by decide)
  have l2 := hle 2 (by decide)
  have l3 := hle 3 (by decide)
  have ho2 : fOwn (vOw v) (nI 0) + fOwn (vOw v) (nI 1) + fOwn (vOw v) (nI 2) + fOwn (vOw v) (nI 3) = 8 := ho
  simp only [sumN] at hs
  have heq : ∀ t, t < 4 → fOwn (vOw v) (nI t) = tgt L (vGa v) t := fun t ht => by
    have c : t = 0 ∨ t = 1 ∨ t = 2 ∨ t = 3 := by omega
    rcases c with rfl | rfl | rfl | rfl <;> omega
  refine hne ?_
  rw [hD, heq _ (by omega)]
  exact Int32.sub_self _
theorem vK_of {w : gV} (h : vK v) (e1 : vOw w = vOw v) (e2 : vHd w = vHd v) (e3 : vLe w = vLe v) (e4 : vEp w = vEp v) : vK w := by
  unfold vK
  rw [e1, e2, e3, e4]
  exact h
theorem vK_mv (hk : vK v) (L : Nat → Nat) : vK (mvV L v) := by
  refine ⟨fun w hw => ?_, hk.2.1, hk.2.2.1, hk.2.2.2⟩
  show ∃ t, t < 4 ∧ mvO L v w = nI t
  have hm := amax_le (mvD L v) 3
  cases hp : mvW L v with
  | none =>
    have e : mvO L v = vOw v := by unfold mvO; rw [hp]
    rw [e]
    exact hk.1 w hw
  | some p =>
    have e : mvO L v = upd (vOw v) p (nI (amax (mvD L v) 3)) := by unfold mvO; rw [hp]
    rw [e]
    unfold upd
    split
    · exact ⟨_, by omega, rfl⟩
    · exact hk.1 w hw
theorem vK_br (hk : vK v) {t a : Nat} (ht : t < 4) (ha : a < 256) : vK (brV v t a) := by
  cases hp : ptP v t a with
  | none =>
    have e : brV v t a = v := by unfold brV; rw [hp]
    rw [e]
    exact hk
  | some p =>
    have e : brV v t a = brQ v t a p := by unfold brV; rw [hp]
    rw [e]
    refine ⟨hk.1, fun q hq => ?_, hk.2.2.1, hk.2.2.2⟩
    show upd (vHd v) p (nI t * nI 256 + nI a) q = -1 ∨ ∃ c, c < 1024 ∧ upd (vHd v) p (nI t * nI 256 + nI a) q = nI c
    unfold upd
    split
    · exact Or.inr ⟨t * 256 + a, by omega, by rw [pk_mul, nI_add]⟩
    · exact hk.2.1 q hq
theorem vK_acB (hk : vK v) {t a : Nat} (ht : t < 4) (ha : a < 256) : vK (acB v t a) := by
  have h0 : vK (acA v t a) := vK_of hk rfl rfl rfl rfl
  unfold acB
  by_cases c : acR v t a = 1
  · rw [if_pos c]
    exact vK_of h0 rfl rfl rfl rfl
  · rw [if_neg c]
    by_cases c2 : acR v t a = 0
    · rw [if_pos c2]
      exact vK_br h0 ht ha
    · rw [if_neg c2]
      exact h0
end PB1
section PB2
def lfv (v : gV) : Nat → Nat := fun t => (vLe v t).toNatClampNeg
theorem lfv_ok {v : gV} (hk : vK v) : ∀ t, t < 4 → vLe v t = nI (lfv v t) ∧ lfv v t ≤ 2 := fun t ht => by
  obtain ⟨l, hl, e⟩ := hk.2.2.1 t ht
  have e2 : lfv v t = l := by
    unfold lfv
    rw [e]
    exact nI_clamp (by omega)
  rw [e2]
  exact ⟨e, hl⟩
theorem cnt_sum (p : Nat → Bool) : ∀ n, cnt p n = sumN (fun k => if p k = true then 1 else 0) n
  | 0 => rfl
  | n + 1 => by
    unfold cnt sumN
    rw [cnt_sum p n]
    split <;> rfl
theorem sum_grid (g : Nat → Nat) : sumN g 32 = sumN (fun w => sumN (fun s => g (s * 8 + w)) 4) 8 := by
  simp only [sumN, Nat.reduceMul, Nat.reduceAdd]
  omega
theorem cnt_grid (p : Nat → Bool) : cnt p 32 = sumN (fun w => cnt (fun s => p (s * 8 + w)) 4) 8 := by
  rw [cnt_sum, sum_grid]
  exact sumN_cong (fun w _ => (cnt_sum (fun s => p (s * 8 + w)) 4).symm)
theorem cnt_hol (hd : Nat → Int32) (t : Int32) : cnt (hol hd t) 32 = sumN (lnW hd t) 8 := cnt_grid (hol hd t)
theorem sumN_add (f g : Nat → Nat) : ∀ n, sumN (fun k => f k + g k) n = sumN f n + sumN g n
  | 0 => rfl
  | n + 1 => by
    unfold sumN
    rw [sumN_add f g n]
    omega
theorem nI_inj {a b : Nat} (h : nI a = nI b) (ha : a < 2 ^ 31) (hb : b < 2 ^ 31) : a = b := (nI_eq ha hb).mp h
theorem vK_rm {v : gV} (hk : vK v) (t : Nat) : vK (rmV v t) := by
  refine ⟨hk.1, fun p hp => ?_, hk.2.2.1, hk.2.2.2⟩
  show rmv (vHd v) (nI t) p = -1 ∨ ∃ c, c < 1024 ∧ rmv (vHd v) (nI t) p = nI c
  unfold rmv
  split
  · exact Or.inl rfl
  · exact hk.2.1 p hp
theorem vK_gw {v : gV} (hk : vK v) {w t : Nat} (ht : t < 4) : vK (upd (vOw v) w (nI t), vHd v, vSt v, vAd v, vGa v, vLe v, vCo v, vEp v, vAc v) := by
  refine ⟨fun u hu => ?_, hk.2.1, hk.2.2.1, hk.2.2.2⟩
  show ∃ t', t' < 4 ∧ upd (vOw v) w (nI t) u = nI t'
  unfold upd
  split
  · exact ⟨t, ht, rfl⟩
  · exact hk.1 u hu
theorem vK_sl {v : gV} (hk : vK v) {t l : Nat} (hl : l ≤ 2) : vK (vOw v, vHd v, vSt v, vAd v, vGa v, upd (vLe v) t (nI l), vCo v, vEp v, vAc v) := by
  refine ⟨hk.1, hk.2.1, fun u hu => ?_, hk.2.2.2⟩
  show ∃ l', l' ≤ 2 ∧ upd (vLe v) t (nI l) u = nI l'
  unfold upd
  split
  · exact ⟨l, hl, rfl⟩
  · exact hk.2.2.1 u hu
theorem vK_ini : vK vIni := ⟨fun w _ => ⟨w % 4, Nat.mod_lt _ (by decide), rfl⟩, fun _ _ => Or.inl rfl, fun _ _ => ⟨1, by decide, rfl⟩, 0, Nat.zero_le _, rfl⟩
end PB2
