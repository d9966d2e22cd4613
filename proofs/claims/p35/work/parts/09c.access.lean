/-! The state: what an access does. -/
section PA1
variable {v : gV}
/-- the monitors' lists hold addresses, each once -/
def pM (ad : Nat → Int32) : Prop := ∀ q, q < 8 → ∃ n, n ≤ 8 ∧ liK ad q n
def pG (ga : Nat → Int32) (B : Nat) : Prop := ∀ j, j < 32 → ∃ g, g ≤ B ∧ ga j = nI g
/-- a tenant's accesses, by its counts -/
def cM (co : Nat → Int32) (t : Nat) : Int32 := co (t * 4 + 0) + co (t * 4 + 1) + co (t * 4 + 2)
def pV (v : gV) (B : Nat) : Prop := vK v ∧ pS (vHd v) ∧ pU (vHd v) ∧ pM (vAd v) ∧ pG (vGa v) B ∧ sumI (cM (vCo v)) 4 = vAc v ∧ vEp v = 0
theorem pG_up {ga : Nat → Int32} {B B' : Nat} (h : pG ga B) (hb : B ≤ B') : pG ga B' := fun j hj => by
  obtain ⟨g, h1, h2⟩ := h j hj
  exact ⟨g, by omega, h2⟩
theorem pV_up {B B' : Nat} (h : pV v B) (hb : B ≤ B') : pV v B' := ⟨h.1, h.2.1, h.2.2.1, h.2.2.2.1, pG_up h.2.2.2.2.1 hb, h.2.2.2.2.2⟩
theorem pV_H {B : Nat} (h : pV v B) : pH (vHd v) := h.1.2.1
/-- the monitor's list of an access -/
abbrev mqI (t a : Nat) : Nat := t * 2 + a % 4 / 2
theorem mqI_lt {t a : Nat} (ht : t < 4) : mqI t a < 8 := by
  show t * 2 + a % 4 / 2 < 8
  omega
/-- the position of an address in it; 8 -/
def psN (ad : Nat → Int32) (q a : Nat) : Nat := fst1 (fun p => decide (ad (q * 8 + p) = nI a)) 8
theorem psN_le (ad : Nat → Int32) (q a : Nat) : psN ad q a ≤ 8 := fst1_le _ _
theorem psN_at {ad : Nat → Int32} {q a : Nat} (h : psN ad q a < 8) : ad (q * 8 + psN ad q a) = nI a := of_decide_eq_true (fst1_yes (p := fun p => decide (ad (q * 8 + p) = nI a)) h)
theorem psN_no {ad : Nat → Int32} {q a : Nat} (h : psN ad q a = 8) {j : Nat} (hj : j < 8) : ¬ ad (q * 8 + j) = nI a := by
  have := fst1_no (p := fun p => decide (ad (q * 8 + p) = nI a)) (n := 8) (j := j) (by show j < psN ad q a; omega)
  simpa using this
-- what stays
theorem acB_c (v : gV) (t a : Nat) : vOw (acB v t a) = vOw v ∧ vAd (acB v t a) = ntAd v t a ∧ vGa (acB v t a) = ntGa v t a ∧ vLe (acB v t a) = vLe v ∧ vEp (acB v t a) = vEp v ∧ vAc (acB v t a) = vAc v + nI 1 := by
  unfold acB
  split
  · exact ⟨rfl, rfl, rfl, rfl, rfl, rfl⟩
  · split
    · unfold brV
      split <;> exact ⟨rfl, rfl, rfl, rfl, rfl, rfl⟩
    · exact ⟨rfl, rfl, rfl, rfl, rfl, rfl⟩
theorem acV_0 {L : Nat → Nat} {t a : Nat} (h : vEp v = 0) : acV L v t a = acB v t a := by
  unfold acV epV
  rw [if_neg]
  exact fun z => z.1 ((acB_c v t a).2.2.2.2.1.trans h)
theorem acR_fF (v : gV) (t a : Nat) : (acR v t a = 1 ↔ fF (vHd v) (lnN t a) (a % 4 * 8) < 8) ∧ (acR v t a = 2 ↔ (¬ fF (vHd v) (lnN t a) (a % 4 * 8) < 8 ∧ fOwn (vOw v) (nI t) = 0)) ∧ (acR v t a = 0 ↔ (¬ fF (vHd v) (lnN t a) (a % 4 * 8) < 8 ∧ ¬ fOwn (vOw v) (nI t) = 0)) := by
  unfold acR rsl lnN
  by_cases c : fF (vHd v) (nI t * nI 256 + nI a) (a % 4 * 8) < 8
  · rw [if_pos c]
    exact ⟨⟨fun _ => c, fun _ => rfl⟩, ⟨fun z => (by cases z), fun z => absurd c z.1⟩, ⟨fun z => (by cases z), fun z => absurd c z.1⟩⟩
  · rw [if_neg c]
    by_cases c2 : fOwn (vOw v) (nI t) = 0
    · rw [if_pos c2]
      exact ⟨⟨fun z => (by cases z), fun z => absurd z c⟩, ⟨fun _ => ⟨c, c2⟩, fun _ => rfl⟩, ⟨fun z => (by cases z), fun z => absurd c2 z.2⟩⟩
    · rw [if_neg c2]
      exact ⟨⟨fun z => (by cases z), fun z => absurd z c⟩, ⟨fun z => (by cases z), fun z => absurd z.2 c2⟩, ⟨fun _ => ⟨c, c2⟩, fun _ => rfl⟩⟩
theorem acR_le (v : gV) (t a : Nat) : acR v t a ≤ 2 := rsl_le _ _ _ _
-- the place of a miss
theorem ptf_some {ow hd st : Nat → Int32} {t : Int32} {fs : Nat} : ∀ (f w : Nat) (o : Nat), ¬ ptf ow hd st t fs f w (some o) = none
  | 0, _, _ => fun h => by cases h
  | f + 1, w, o => by
    unfold ptf
    split
    · split
      · exact fun h => by cases h
      · exact ptf_some f (w + 1) _
    · exact ptf_some f (w + 1) o
theorem ptf_has {ow hd st : Nat → Int32} {t : Int32} {fs : Nat} : ∀ (f w u : Nat), w ≤ u → u < w + f → ow u = t → ¬ ptf ow hd st t fs f w none = none
  | 0, w, u, h1, h2, _ => absurd h2 (by omega)
  | f + 1, w, u, h1, h2, h3 => by
    unfold ptf
    split
    · split
      · exact fun h => by cases h
      · exact ptf_some f (w + 1) _
    · rename_i c
      have : ¬ u = w := fun q => c (q ▸ h3)
      exact ptf_has f (w + 1) u (by omega) (by omega) h3
theorem ptf_own {ow hd st : Nat → Int32} {t : Int32} {fs : Nat} : ∀ (f w : Nat) (old : Option Nat) (p : Nat), (∀ o, old = some o → fs ≤ o ∧ o < fs + w ∧ ow (o - fs) = t) → ptf ow hd st t fs f w old = some p → fs ≤ p ∧ p < fs + (w + f) ∧ ow (p - fs) = t
  | 0, w, old, p, ho, h => by
    have := ho p h
    exact ⟨this.1, by omega, this.2.2⟩
  | f + 1, w, old, p, ho, h => by
    unfold ptf at h
    split at h
    · rename_i c
      have hw : ow (fs + w - fs) = t := by rw [Nat.add_sub_cancel_left]; exact c
      split at h
      · cases h
        exact ⟨by omega, by omega, hw⟩
      · have := ptf_own f (w + 1) _ p (fun o e => by
          cases e
          unfold ptU
          cases old with
          | none =>
            show fs ≤ fs + w ∧ fs + w < fs + (w + 1) ∧ ow (fs + w - fs) = t
            exact ⟨by omega, by omega, hw⟩
          | some q =>
            have hq := ho q rfl
            show fs ≤ (if st (fs + w) < st q then fs + w else q) ∧ (if st (fs + w) < st q then fs + w else q) < fs + (w + 1) ∧ ow ((if st (fs + w) < st q then fs + w else q) - fs) = t
            split
            · exact ⟨by omega, by omega, hw⟩
            · exact ⟨hq.1, by omega, hq.2.2⟩) h
        exact ⟨this.1, by omega, this.2.2⟩
    · have := ptf_own f (w + 1) old p (fun o e => by
        have hq := ho o e
        exact ⟨hq.1, by omega, hq.2.2⟩) h
      exact ⟨this.1, by omega, this.2.2⟩
theorem cnt_pos {p : Nat → Bool} : ∀ {n : Nat}, ¬ cnt p n = 0 → ∃ j, j < n ∧ p j = true
  | 0, h => absurd rfl h
  | n + 1, h => by
    by_cases c : p n = true
    · exact ⟨n, by omega, c⟩
    · rw [cnt_f c] at h
      obtain ⟨j, h1, h2⟩ := cnt_pos h
      exact ⟨j, by omega, h2⟩
theorem pt_some {t a : Nat} (h : ¬ fOwn (vOw v) (nI t) = 0) : ∃ p, ptP v t a = some p ∧ a % 4 * 8 ≤ p ∧ p < a % 4 * 8 + 8 ∧ vOw v (p - a % 4 * 8) = nI t := by
  obtain ⟨u, hu, e⟩ := cnt_pos h
  have e : vOw v u = nI t := of_decide_eq_true e
  cases hp : ptP v t a with
  | none => exact absurd hp (ptf_has 8 0 u (by omega) (by omega) e)
  | some p =>
    have := ptf_own 8 0 none p (fun o ho => by cases ho) hp
    exact ⟨p, rfl, this.1, by omega, this.2.2⟩
-- lines behind an access
theorem acB_hd (v : gV) (t a : Nat) : (¬ acR v t a = 0 → vHd (acB v t a) = vHd v) ∧ ∀ p, acR v t a = 0 → ptP v t a = some p → vHd (acB v t a) = upd (vHd v) p (lnN t a) := by
  refine ⟨fun h => ?_, fun p h hp => ?_⟩
  · unfold acB
    split
    · rfl
    · rfl
  · unfold acB
    rw [if_neg (by omega), if_pos h]
    have e : brV (acA v t a) t a = brQ (acA v t a) t a p := by
      have hp2 : ptP (acA v t a) t a = some p := hp
      unfold brV
      rw [hp2]
    rw [e]
theorem pH_put {hd : Nat → Int32} (h : pH hd) {p t a : Nat} (ht : t < 4) (ha : a < 256) : pH (upd hd p (lnN t a)) := fun q hq => by
  by_cases c : q = p
  · rw [c, pk_us]
    exact Or.inr ⟨t * 256 + a, by omega, lnN_eq t a⟩
  · rw [pk_un c]
    exact h q hq
theorem pS_put {hd : Nat → Int32} (h : pS hd) {p t a : Nat} (ht : t < 4) (ha : a < 256) (hp : a % 4 = p / 8) : pS (upd hd p (lnN t a)) := fun q hq c hc e => by
  by_cases x : q = p
  · rw [x, pk_us, lnN_eq] at e
    have := nI_inj e (by omega) (by omega)
    rw [x]
    omega
  · rw [pk_un x] at e
    exact h q hq c hc e
theorem pU_put {hd : Nat → Int32} (hS : pS hd) (hU : pU hd) {p t a : Nat} (ht : t < 4) (ha : a < 256) (hn : ¬ fF hd (lnN t a) (a % 4 * 8) < 8) : pU (upd hd p (lnN t a)) := fun q r hq hr e hne => by
  have key : ∀ s, s < 32 → ¬ hd s = lnN t a := fun s hs z => by
    have := fF_line hS hU hs ht ha z
    omega
  by_cases x : q = p
  · by_cases y : r = p
    · omega
    · rw [x, pk_us, pk_un y] at e
      exact absurd e.symm (key r hr)
  · by_cases y : r = p
    · rw [y, pk_us, pk_un x] at e
      exact absurd e (key q hq)
    · rw [pk_un x, pk_un y] at e
      rw [pk_un x] at hne
      exact hU q r hq hr e hne
-- the monitor
theorem sumI_upd (g : Nat → Int32) (k b : Nat) : ∀ n, sumI (fun p => upd g k (g k + nI 1) (b + p)) n = sumI (fun p => g (b + p)) n + if b ≤ k ∧ k < b + n then nI 1 else nI 0
  | 0 => by
    rw [if_neg (by omega)]
    rfl
  | n + 1 => by
    unfold sumI
    rw [sumI_upd g k b n]
    by_cases c : b + n = k
    · rw [c, pk_us, if_neg (by omega), if_pos (by omega)]
      show sumI (fun p => g (b + p)) n + nI 0 + (g k + nI 1) = sumI (fun p => g (b + p)) n + g k + nI 1
      rw [nI_0, Int32.add_zero, Int32.add_assoc]
    · rw [pk_un c]
      by_cases d : b ≤ k ∧ k < b + n
      · rw [if_pos d, if_pos (by omega), Int32.add_assoc, Int32.add_assoc, Int32.add_comm (nI 1)]
      · rw [if_neg d, if_neg (by omega), nI_0, Int32.add_zero, Int32.add_zero]
def gsM (ga : Nat → Int32) (t : Nat) : Int32 := sumI (fun p => ga (t * 8 + p)) 8
theorem nGa_hit {ad ga : Nat → Int32} {q n t a : Nat} (ha : a < 256) (hk : liK ad q n) (hp : psN ad q a < 8) : nGa ad ga t (q * 8) a = upd ga (t * 8 + psN ad q a) (ga (t * 8 + psN ad q a) + nI 1) := by
  have e := psN_at hp
  have h1 : psN ad q a < n := Nat.lt_of_not_le (fun z => liK_no ha hk z hp e)
  funext j
  unfold nGa
  by_cases c : j = t * 8 + psN ad q a
  · rw [if_pos ⟨by omega, by omega, by rw [show j - 8 * t = psN ad q a by omega]; exact e⟩, c, pk_us]
  · rw [pk_un c, if_neg]
    rintro ⟨c1, c2, c3⟩
    obtain ⟨i, hi⟩ : ∃ i, j = t * 8 + i := ⟨j - t * 8, by omega⟩
    rw [show j - 8 * t = i by omega] at c3
    have h2 : i < n := Nat.lt_of_not_le (fun z => liK_no ha hk z (by omega) c3)
    exact liK_ne hk h2 h1 (by omega) (c3.trans e.symm)
theorem nGa_no {ad ga : Nat → Int32} {q t a : Nat} (hp : psN ad q a = 8) : nGa ad ga t (q * 8) a = ga := by
  funext j
  unfold nGa
  rw [if_neg]
  rintro ⟨c1, c2, c3⟩
  exact psN_no hp (by omega) c3
theorem ntGa_eq {t a : Nat} (h : a % 2 = 0) : ntGa v t a = nGa (vAd v) (vGa v) t (mqI t a * 8) a := if_pos h
theorem ntAd_eq {t a : Nat} (h : a % 2 = 0) : ntAd v t a = nAd (vAd v) (mqI t a * 8) a := if_pos h
theorem pM_nt (h : pM (vAd v)) {t a : Nat} (ht : t < 4) (ha : a < 256) : pM (ntAd v t a) := by
  by_cases hev : a % 2 = 0
  · rw [ntAd_eq hev]
    intro q hq
    obtain ⟨n, hn, hk⟩ := h q hq
    by_cases c : q = mqI t a
    · subst c
      by_cases d : psN (vAd v) (mqI t a) a < 8
      · have e := psN_at d
        have h1 : psN (vAd v) (mqI t a) a < n := Nat.lt_of_not_le (fun z => liK_no ha hk z d e)
        exact ⟨n, hn, (liK_hit ha hn hk h1 e).2⟩
      · have d8 : psN (vAd v) (mqI t a) a = 8 := by have := psN_le (vAd v) (mqI t a) a; omega
        exact ⟨_, by split <;> omega, (liK_new ha hn hk (fun j hj => psN_no d8 (by omega))).2⟩
    · have e : ∀ j, j < 8 → nAd (vAd v) (mqI t a * 8) a (q * 8 + j) = vAd v (q * 8 + j) := fun j hj => nAd_out (by omega)
      refine ⟨n, hn, fun j hj => ?_, fun j h1 h2 => ?_, fun i j hi hj => ?_⟩
      · rw [e j (by omega)]
        exact hk.1 j hj
      · rw [e j h2]
        exact hk.2.1 j h1 h2
      · rw [e i (by omega), e j (by omega)]
        exact hk.2.2 i j hi hj
  · have e : ntAd v t a = vAd v := if_neg hev
    rw [e]
    exact h
theorem pG_nt {B : Nat} (hM : pM (vAd v)) (h : pG (vGa v) B) {t a : Nat} (ht : t < 4) (ha : a < 256) : pG (ntGa v t a) (B + 1) := by
  by_cases hev : a % 2 = 0
  · rw [ntGa_eq hev]
    obtain ⟨n, hn, hk⟩ := hM (mqI t a) (mqI_lt ht)
    by_cases d : psN (vAd v) (mqI t a) a < 8
    · rw [nGa_hit ha hk d]
      intro j hj
      by_cases c : j = t * 8 + psN (vAd v) (mqI t a) a
      · obtain ⟨g, h1, h2⟩ := h j hj
        rw [c, pk_us, ← c, h2]
        exact ⟨g + 1, by omega, nI_add g 1⟩
      · rw [pk_un c]
        obtain ⟨g, h1, h2⟩ := h j hj
        exact ⟨g, by omega, h2⟩
    · rw [nGa_no (by have := psN_le (vAd v) (mqI t a) a; omega)]
      exact pG_up h (by omega)
  · have e : ntGa v t a = vGa v := if_neg hev
    rw [e]
    exact pG_up h (by omega)
-- counts
theorem evC_out {hd co : Nat → Int32} {p m i : Nat} (hi : ¬ i % 4 = 3) : evC hd p m co i = co i := if_neg (fun z => hi z.1)
theorem acB_co {t a i : Nat} (hi : ¬ i % 4 = 3) : vCo (acB v t a) i = upd (vCo v) (t * 4 + acR v t a) (vCo v (t * 4 + acR v t a) + nI 1) i := by
  unfold acB
  split
  · rfl
  · split
    · unfold brV
      split
      · rfl
      · exact evC_out hi
    · rfl
theorem cM_up {co : Nat → Int32} {t r u : Nat} (hr : r ≤ 2) : cM (upd co (t * 4 + r) (co (t * 4 + r) + nI 1)) u = if u = t then cM co u + nI 1 else cM co u := by
  unfold cM
  by_cases c : u = t
  · subst c
    rw [if_pos rfl]
    have h3 : r = 0 ∨ r = 1 ∨ r = 2 := by omega
    rcases h3 with rfl | rfl | rfl
    · rw [pk_us, pk_un (by omega), pk_un (by omega)]
      ac_rfl
    · rw [pk_us, pk_un (by omega), pk_un (by omega)]
      ac_rfl
    · rw [pk_us, pk_un (by omega), pk_un (by omega)]
      ac_rfl
  · rw [if_neg c, pk_un (by omega), pk_un (by omega), pk_un (by omega)]
theorem cM_cong {co co' : Nat → Int32} (h : ∀ i, ¬ i % 4 = 3 → co i = co' i) (u : Nat) : cM co u = cM co' u := by
  unfold cM
  rw [h _ (by omega), h _ (by omega), h _ (by omega)]
theorem cM_sum {co : Nat → Int32} {t r : Nat} (ht : t < 4) (hr : r ≤ 2) : sumI (cM (upd co (t * 4 + r) (co (t * 4 + r) + nI 1))) 4 = sumI (cM co) 4 + nI 1 := by
  have h := fun u => cM_up (co := co) (t := t) (u := u) hr
  simp only [sumI, h]
  have h4 : t = 0 ∨ t = 1 ∨ t = 2 ∨ t = 3 := by omega
  rcases h4 with rfl | rfl | rfl | rfl <;> simp only [Nat.reduceEqDiff, if_true, if_false, reduceIte] <;> ac_rfl
theorem pV_ac {B : Nat} (h : pV v B) {t a : Nat} (ht : t < 4) (ha : a < 256) : pV (acB v t a) (B + 1) := by
  obtain ⟨hk, hS, hU, hM, hG, hC, hE⟩ := id h
  obtain ⟨c1, c2, c3, c4, c5, c6⟩ := acB_c v t a
  have hl : pS (vHd (acB v t a)) ∧ pU (vHd (acB v t a)) := by
    by_cases c : acR v t a = 0
    · obtain ⟨d1, d2⟩ := (acR_fF v t a).2.2.mp c
      obtain ⟨p, hp, p1, p2, p3⟩ := pt_some (a := a) d2
      rw [(acB_hd v t a).2 p c hp]
      exact ⟨pS_put hS ht ha (by omega), pU_put hS hU ht ha d1⟩
    · rw [(acB_hd v t a).1 c]
      exact ⟨hS, hU⟩
  refine ⟨vK_acB hk ht ha, hl.1, hl.2, ?_, ?_, ?_, ?_⟩
  · rw [c2]
    exact pM_nt hM ht ha
  · rw [c3]
    exact pG_nt hM hG ht ha
  · rw [c6, ← hC, ← cM_sum ht (acR_le v t a)]
    exact sumI_cong (fun u _ => cM_cong (fun i hi => acB_co hi) u)
  · rw [c5]
    exact hE
end PA1
