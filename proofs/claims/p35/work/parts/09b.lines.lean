/-! The state: lines, their places, their numbers. -/
section PL1
variable {v : gV}
/-- a line stands in its set -/
def pS (hd : Nat → Int32) : Prop := ∀ p, p < 32 → ∀ c, c < 1024 → hd p = nI c → c % 4 = p / 8
/-- each line stands once -/
def pU (hd : Nat → Int32) : Prop := ∀ p q, p < 32 → q < 32 → hd p = hd q → ¬ hd p = -1 → p = q
/-- places hold nothing, or a line -/
def pH (hd : Nat → Int32) : Prop := ∀ p, p < 32 → hd p = -1 ∨ ∃ c, c < 1024 ∧ hd p = nI c
abbrev lnN (t a : Nat) : Int32 := nI t * nI 256 + nI a
theorem lnN_eq (t a : Nat) : lnN t a = nI (t * 256 + a) := by
  show nI t * nI 256 + nI a = _
  rw [pk_mul, nI_add]
theorem nI_div256 {c : Nat} (h : c < 1024) : nI c / nI 256 = nI (c / 256) := pk_div (by omega) (by decide) (by decide)
theorem hol_n {hd : Nat → Int32} {q : Nat} (t : Int32) (h : hd q = -1) : hol hd t q = false := by
  unfold hol
  rw [h]
  rfl
theorem hol_c {hd : Nat → Int32} {q c t : Nat} (h : hd q = nI c) (hc : c < 1024) (ht : t < 4) : hol hd (nI t) q = decide (c / 256 = t) := by
  unfold hol
  rw [h, nI_div256 hc, decide_eq_true (nI_m1 (by omega)), Bool.true_and]
  by_cases e : c / 256 = t
  · rw [decide_eq_true e, decide_eq_true (congrArg nI e)]
  · rw [decide_eq_false e, decide_eq_false (fun z => e (nI_inj z (by omega) (by omega)))]
theorem hol_iff {hd : Nat → Int32} (hH : pH hd) {q t : Nat} (hq : q < 32) (ht : t < 4) : hol hd (nI t) q = true ↔ ∃ c, c < 1024 ∧ hd q = nI c ∧ c / 256 = t := by
  rcases hH q hq with h | ⟨c, hc, h⟩
  · rw [hol_n _ h]
    refine ⟨fun z => (by cases z), fun ⟨c, hc, h2, _⟩ => ?_⟩
    rw [h] at h2
    exact absurd h2.symm (nI_m1 (by omega))
  · rw [hol_c h hc ht, decide_eq_true_iff]
    refine ⟨fun z => ⟨c, hc, h, z⟩, fun ⟨c2, hc2, h2, z⟩ => ?_⟩
    rw [h] at h2
    have := nI_inj h2 (by omega) (by omega)
    rw [this]
    exact z
/-- lines in all -/
def nE (hd : Nat → Int32) : Nat := cnt (fun p => decide (¬ hd p = -1)) 32
theorem all_go {hd : Nat → Int32} (hH : pH hd) : ∀ n, n ≤ 32 → cnt (hol hd (nI 0)) n + cnt (hol hd (nI 1)) n + cnt (hol hd (nI 2)) n + cnt (hol hd (nI 3)) n = cnt (fun p => decide (¬ hd p = -1)) n
  | 0, _ => rfl
  | n + 1, hn => by
    have ih := all_go hH n (by omega)
    rcases hH n (by omega) with h | ⟨c, hc, h⟩
    · rw [cnt_f (by rw [hol_n _ h]; decide), cnt_f (by rw [hol_n _ h]; decide), cnt_f (by rw [hol_n _ h]; decide), cnt_f (by rw [hol_n _ h]; decide), cnt_f (p := fun p => decide (¬ hd p = -1)) (by simp [h]), ih]
    · rw [cnt_t (p := fun p => decide (¬ hd p = -1)) (by rw [h]; exact decide_eq_true (nI_m1 (by omega)))]
      have k : ∀ t, t < 4 → cnt (hol hd (nI t)) (n + 1) = cnt (hol hd (nI t)) n + if c / 256 = t then 1 else 0 := fun t ht => by
        by_cases e : c / 256 = t
        · rw [cnt_t (by rw [hol_c h hc ht]; exact decide_eq_true e), if_pos e]
        · rw [cnt_f (by rw [hol_c h hc ht, decide_eq_false e]; decide), if_neg e]
          rfl
      rw [k 0 (by decide), k 1 (by decide), k 2 (by decide), k 3 (by decide)]
      have c4 : c / 256 = 0 ∨ c / 256 = 1 ∨ c / 256 = 2 ∨ c / 256 = 3 := by omega
      rcases c4 with e | e | e | e <;> rw [e] <;> simp only [Nat.reduceEqDiff, reduceIte] <;> omega
theorem nE_sum {hd : Nat → Int32} (hH : pH hd) : sumN (fun t => sumN (lnW hd (nI t)) 8) 4 = nE hd := by
  have h := all_go hH 32 (Nat.le_refl _)
  have e : sumN (fun t => sumN (lnW hd (nI t)) 8) 4 = 0 + sumN (lnW hd (nI 0)) 8 + sumN (lnW hd (nI 1)) 8 + sumN (lnW hd (nI 2)) 8 + sumN (lnW hd (nI 3)) 8 := rfl
  unfold nE
  rw [← h, e, ← cnt_hol, ← cnt_hol, ← cnt_hol, ← cnt_hol, Nat.zero_add]
theorem nE_le (hd : Nat → Int32) : nE hd ≤ 32 := cnt_le _ _
theorem cnt_upd {p q : Nat → Bool} {k : Nat} (h : ∀ j, ¬ j = k → p j = q j) : ∀ n, n ≤ k → cnt p n = cnt q n := fun n hn => cnt_cong (fun j hj => h j (by omega))
/-- one place is another -/
theorem cnt_one {p q : Nat → Bool} {k : Nat} (h : ∀ j, ¬ j = k → p j = q j) (hp : p k = true) (hq : ¬ q k = true) : ∀ n, k < n → cnt p n = cnt q n + 1
  | 0, hn => absurd hn (by omega)
  | n + 1, hn => by
    by_cases e : k = n
    · subst e
      rw [cnt_t hp, cnt_f hq, cnt_upd h k (Nat.le_refl _)]
    · have ih := cnt_one h hp hq n (by omega)
      have e2 := h n (fun z => e z.symm)
      by_cases c : q n = true
      · rw [cnt_t (by rw [e2]; exact c), cnt_t c, ih]
      · rw [cnt_f (by rw [e2]; exact c), cnt_f c, ih]
theorem nE_put {hd : Nat → Int32} {p : Nat} {x : Int32} (hp : p < 32) (hx : ¬ x = -1) : nE (upd hd p x) = nE hd + if hd p = -1 then 1 else 0 := by
  unfold nE
  by_cases c : hd p = -1
  · rw [if_pos c]
    refine cnt_one (k := p) (fun j hj => by rw [pk_un hj]) (by simp [pk_us, hx]) (by simp [c]) 32 hp
  · rw [if_neg c, Nat.add_zero]
    refine cnt_cong (fun j _ => ?_)
    by_cases e : j = p
    · rw [e, pk_us]
      simp [hx, c]
    · rw [pk_un e]
-- where a line is
/-- the law's own word for it -/
def fnd (p : Nat → Bool) : Nat → Int32
  | 0 => -1
  | n + 1 => if p n = true then nI n else fnd p n
theorem fnd_one {p : Nat → Bool} : ∀ n, (∀ i j, i < n → j < n → p i = true → p j = true → i = j) → (cnt p n ≤ 1) ∧ fnd p n = if fst1 p n < n then nI (fst1 p n) else -1
  | 0, _ => ⟨Nat.zero_le _, rfl⟩
  | n + 1, h => by
    obtain ⟨h1, h2⟩ := fnd_one n (fun i j hi hj => h i j (by omega) (by omega))
    by_cases c : p n = true
    · have h0 : ∀ j, j < n → ¬ p j = true := fun j hj q => by
        have := h j n (by omega) (by omega) q c
        omega
      rw [cnt_t c, cnt_0 h0, fst1_eq (i := n) c h0 (by omega)]
      refine ⟨by omega, ?_⟩
      rw [if_pos (by omega)]
      exact if_pos c
    · rw [cnt_f c]
      refine ⟨h1, ?_⟩
      have e1 : fnd p (n + 1) = fnd p n := if_neg c
      rw [e1, h2]
      by_cases c2 : fst1 p n < n
      · have e2 : fst1 p (n + 1) = fst1 p n := if_pos c2
        rw [e2, if_pos c2, if_pos (by omega)]
      · have e2 : fst1 p (n + 1) = n + 1 := by
          unfold fst1
          rw [if_neg c2, if_neg c]
        rw [e2, if_neg c2, if_neg (by omega)]
/-- the way of the set in which a line is; -1 -/
def fdR (hd : Nat → Int32) (t a : Nat) : Int32 := if fF hd (lnN t a) (a % 4 * 8) < 8 then nI (fF hd (lnN t a) (a % 4 * 8)) else -1
theorem lnN_ne {t a : Nat} (ht : t < 4) (ha : a < 256) : ¬ lnN t a = -1 := by
  rw [lnN_eq]
  exact nI_m1 (by omega)
theorem fnd_fd {hd : Nat → Int32} (hU : pU hd) {t a : Nat} (ht : t < 4) (ha : a < 256) : cnt (fun w => decide (hd (a % 4 * 8 + w) = lnN t a)) 8 ≤ 1 ∧ fnd (fun w => decide (hd (a % 4 * 8 + w) = lnN t a)) 8 = fdR hd t a :=
  fnd_one 8 (fun i j hi hj h1 h2 => by
    have h1 : hd (a % 4 * 8 + i) = lnN t a := of_decide_eq_true h1
    have h2 : hd (a % 4 * 8 + j) = lnN t a := of_decide_eq_true h2
    have := hU _ _ (by omega) (by omega) (h1.trans h2.symm) (by rw [h1]; exact lnN_ne ht ha)
    omega)
theorem fF_at {hd : Nat → Int32} {x : Int32} {fs : Nat} (h : fF hd x fs < 8) : hd (fs + fF hd x fs) = x := of_decide_eq_true (fst1_yes (p := fun w => decide (hd (fs + w) = x)) h)
theorem fF_none {hd : Nat → Int32} {x : Int32} {fs : Nat} (h : ¬ fF hd x fs < 8) {j : Nat} (hj : j < 8) : ¬ hd (fs + j) = x := by
  have h8 : fF hd x fs = 8 := by have := fF_le hd x fs; omega
  have := fst1_no (p := fun w => decide (hd (fs + w) = x)) (n := 8) (j := j) (by show j < fF hd x fs; omega)
  simpa using this
theorem fF_is {hd : Nat → Int32} {x : Int32} {fs i : Nat} (hi : i < 8) (h : hd (fs + i) = x) (hn : ∀ j, j < i → ¬ hd (fs + j) = x) : fF hd x fs = i := fst1_eq (by simpa using h) (fun j hj => by simpa using hn j hj) hi
theorem fF_not {hd : Nat → Int32} {x : Int32} {fs : Nat} (hn : ∀ j, j < 8 → ¬ hd (fs + j) = x) : fF hd x fs = 8 := fst1_none (fun j hj => by simpa using hn j hj)
/-- a line that stands somewhere is found there -/
theorem fF_line {hd : Nat → Int32} (hS : pS hd) (hU : pU hd) {p t a : Nat} (hp : p < 32) (ht : t < 4) (ha : a < 256) (h : hd p = lnN t a) : a % 4 = p / 8 ∧ fF hd (lnN t a) (a % 4 * 8) = p % 8 := by
  have h1 : (t * 256 + a) % 4 = p / 8 := hS p hp _ (by omega) (by rw [h, lnN_eq])
  have h2 : a % 4 = p / 8 := by omega
  refine ⟨h2, fF_is (by omega) (by rw [show a % 4 * 8 + p % 8 = p by omega]; exact h) (fun j hj q => ?_)⟩
  have := hU (a % 4 * 8 + j) p (by omega) hp (q.trans h.symm) (by rw [q]; exact lnN_ne ht ha)
  omega
theorem fd_neg {hd : Nat → Int32} {t a : Nat} : fdR hd t a < 0 ↔ ¬ fF hd (lnN t a) (a % 4 * 8) < 8 := by
  unfold fdR
  split
  · rename_i h
    refine ⟨fun z => absurd z (nI_pos (by omega)), fun z => absurd h z⟩
  · rename_i h
    exact ⟨fun _ => h, fun _ => by decide⟩
-- lines of a tenant
theorem li_0 (v : gV) (t : Nat) : liR v t 0 = nI (sumN (lnW (vHd v) (nI t)) 8) := by
  unfold liR
  rw [if_pos rfl, pk_sub (Nat.zero_le _), Nat.sub_zero]
theorem li_1 (v : gV) (t : Nat) {b : Int32} (hb : ¬ b = 0) : liR v t b = nI (sumN (fun w => if vOw v w = nI t then 0 else lnW (vHd v) (nI t) w) 8) := by
  unfold liR
  rw [if_neg hb]
  have e : sumN (lnW (vHd v) (nI t)) 8 = sumN (lnO (vOw v) (vHd v) (nI t)) 8 + sumN (fun w => if vOw v w = nI t then 0 else lnW (vHd v) (nI t) w) 8 := by
    rw [← sumN_add]
    refine sumN_cong (fun w _ => ?_)
    unfold lnO
    split <;> omega
  rw [e, pk_sub (by omega), Nat.add_sub_cancel_left]
theorem all_li {v : gV} (hH : pH (vHd v)) : liR v 0 0 + liR v 1 0 + liR v 2 0 + liR v 3 0 = nI (nE (vHd v)) := by
  have e : sumN (fun t => sumN (lnW (vHd v) (nI t)) 8) 4 = 0 + sumN (lnW (vHd v) (nI 0)) 8 + sumN (lnW (vHd v) (nI 1)) 8 + sumN (lnW (vHd v) (nI 2)) 8 + sumN (lnW (vHd v) (nI 3)) 8 := rfl
  rw [li_0, li_0, li_0, li_0, nI_add, nI_add, nI_add, ← nE_sum hH, e, Nat.zero_add]
-- a flush
theorem rmv_at (hd : Nat → Int32) (t : Int32) (p : Nat) : rmv hd t p = if hol hd t p = true then -1 else hd p := rfl
theorem pH_rm {hd : Nat → Int32} (h : pH hd) (t : Int32) : pH (rmv hd t) := fun p hp => by
  rw [rmv_at]
  split
  · exact Or.inl rfl
  · exact h p hp
theorem pS_rm {hd : Nat → Int32} (h : pS hd) (t : Int32) : pS (rmv hd t) := fun p hp c hc e => by
  rw [rmv_at] at e
  split at e
  · exact absurd e.symm (nI_m1 (by omega))
  · exact h p hp c hc e
theorem pU_rm {hd : Nat → Int32} (h : pU hd) (t : Int32) : pU (rmv hd t) := fun p q hp hq e hn => by
  rw [rmv_at, rmv_at] at e
  rw [rmv_at] at hn
  split at hn
  · exact absurd rfl hn
  · rename_i c
    rw [if_neg c] at e
    split at e
    · exact absurd e hn
    · exact h p q hp hq e hn
theorem hol_rm {hd : Nat → Int32} (t : Int32) (p : Nat) : hol (rmv hd t) t p = false := by
  unfold hol
  rw [rmv_at]
  cases c : hol hd t p with
  | true =>
    rw [if_pos rfl]
    rfl
  | false =>
    rw [if_neg (by decide)]
    exact c
theorem rm_go {hd : Nat → Int32} (t : Int32) : ∀ n, cnt (fun p => decide (¬ rmv hd t p = -1)) n + cnt (hol hd t) n = cnt (fun p => decide (¬ hd p = -1)) n
  | 0 => rfl
  | n + 1 => by
    have ih := rm_go (hd := hd) t n
    by_cases c : hol hd t n = true
    · have c2 : ¬ hd n = -1 := by
        unfold hol at c
        simp only [Bool.and_eq_true, decide_eq_true_iff] at c
        exact c.1
      rw [cnt_t c, cnt_f (p := fun p => decide (¬ rmv hd t p = -1)) (by simp [rmv_at, c]), cnt_t (p := fun p => decide (¬ hd p = -1)) (by simp [c2])]
      omega
    · rw [cnt_f c]
      have e : rmv hd t n = hd n := by rw [rmv_at, if_neg c]
      by_cases c2 : hd n = -1
      · rw [cnt_f (p := fun p => decide (¬ rmv hd t p = -1)) (by simp [e, c2]), cnt_f (p := fun p => decide (¬ hd p = -1)) (by simp [c2])]
        exact ih
      · rw [cnt_t (p := fun p => decide (¬ rmv hd t p = -1)) (by simp [e, c2]), cnt_t (p := fun p => decide (¬ hd p = -1)) (by simp [c2])]
        omega
theorem nE_rm {hd : Nat → Int32} (t : Int32) : nI (nE (rmv hd t)) = nI (nE hd) - nI (cnt (hol hd t) 32) := by
  have h := rm_go (hd := hd) t 32
  unfold nE
  rw [← h, pk_sub (by omega), Nat.add_sub_cancel]
theorem lnW_rm (hd : Nat → Int32) (t : Int32) (w : Nat) : lnW (rmv hd t) t w = 0 := cnt_0 (fun s _ => by rw [hol_rm]; decide)
theorem sumN_0 {f : Nat → Nat} : ∀ {n : Nat}, (∀ j, j < n → f j = 0) → sumN f n = 0
  | 0, _ => rfl
  | n + 1, h => by
    unfold sumN
    rw [h n (by omega), sumN_0 (fun j hj => h j (by omega))]
theorem li_rm (v : gV) (t : Nat) {b : Int32} (hb : ¬ b = 0) : liR (rmV v t) t b = nI 0 := by
  rw [li_1 _ _ hb]
  rw [sumN_0 (fun w _ => ?_)]
  show (if vOw v w = nI t then 0 else lnW (rmv (vHd v) (nI t)) (nI t) w) = 0
  rw [lnW_rm]
  split <;> rfl
end PL1
