/-! The relation of a state of the class and a row of the model. -/
section MR1
def liK (ad : Nat → Int32) (q n : Nat) : Prop := (∀ j, j < n → ∃ a, a < 256 ∧ ad (q * 8 + j) = nI a) ∧ (∀ j, n ≤ j → j < 8 → ad (q * 8 + j) = -1) ∧ (∀ i j, i < j → j < n → ¬ ad (q * 8 + i) = ad (q * 8 + j))
def vK (v : gV) : Prop := (∀ w, w < 8 → ∃ t, t < 4 ∧ vOw v w = nI t) ∧ (∀ p, p < 32 → vHd v p = -1 ∨ ∃ c, c < 1024 ∧ vHd v p = nI c) ∧ (∀ t, t < 4 → ∃ l, l ≤ 2 ∧ vLe v t = nI l) ∧ ∃ e, e ≤ 200 ∧ vEp v = nI e
def lsR (v : gV) (R : Nat → Int32) : Prop := ∀ q, q < 8 → ∃ n, n ≤ 8 ∧ R (72 + q) = nI n ∧ liK (vAd v) q n ∧ ∀ j, j < n → R (80 + 9 * q + j) = vAd v (q * 8 + j)
/-- the row says what the state says -/
def rl (v : gV) (R : Nat → Int32) : Prop := (∀ w, w < 8 → R w = vOw v w) ∧ (∀ p, p < 32 → hdR R p = vHd v p) ∧ (∀ p, p < 32 → ¬ vHd v p = -1 → stR R p = vSt v p) ∧ lsR v R ∧ (∀ j, j < 32 → gaR R j = vGa v j) ∧ (∀ t, t < 4 → R (184 + t) = vLe v t) ∧ R 188 = vEp v ∧ R 189 = vAc v ∧ (∀ j, j < 16 → coR R j = vCo v j)
variable {v : gV} {R : Nat → Int32}
theorem rl_hol (h : rl v R) {t : Int32} {p : Nat} (hp : p < 32) : hol (hdR R) t p = hol (vHd v) t p := by
  unfold hol
  rw [h.2.1 p hp]
theorem rl_lnW (h : rl v R) {t : Int32} {w : Nat} (hw : w < 8) : lnW (hdR R) t w = lnW (vHd v) t w := cnt_cong (fun s hs => rl_hol h (by omega))
theorem rl_own (h : rl v R) (t : Int32) : fOwn R t = fOwn (vOw v) t := cnt_cong (fun w hw => by rw [h.1 w hw])
theorem rl_fF (h : rl v R) (x : Int32) {fs : Nat} (hfs : fs ≤ 24) : fF (hdR R) x fs = fF (vHd v) x fs := fst1_cong (fun w hw => by rw [h.2.1 (fs + w) (by omega)])
theorem rl_rsl (h : rl v R) (t : Int32) (a : Nat) : rsl R (hdR R) t a = rsl (vOw v) (vHd v) t a := by
  unfold rsl
  rw [rl_fF h _ (by omega), rl_own h]
theorem ptf_cong {ow ow' hd hd' st st' : Nat → Int32} {t : Int32} {fs : Nat} (hfs : fs ≤ 24) (h1 : ∀ w, w < 8 → ow w = ow' w) (h2 : ∀ p, p < 32 → hd p = hd' p) (h3 : ∀ p, p < 32 → ¬ hd' p = -1 → st p = st' p) : ∀ (f w : Nat) (old : Option Nat), w + f ≤ 8 → (∀ o, old = some o → o < 32 ∧ ¬ hd' o = -1) → ptf ow hd st t fs f w old = ptf ow' hd' st' t fs f w old
  | 0, _, _, _, _ => rfl
  | f + 1, w, old, hw, ho => by
    unfold ptf
    rw [h1 w (by omega), h2 (fs + w) (by omega)]
    by_cases c1 : ow' w = t
    · rw [if_pos c1, if_pos c1]
      by_cases c2 : hd' (fs + w) = -1
      · rw [if_pos c2, if_pos c2]
      · rw [if_neg c2, if_neg c2]
        have e : ptU st (fs + w) old = ptU st' (fs + w) old := by
          cases old with
          | none => rfl
          | some o =>
            obtain ⟨ho1, ho2⟩ := ho o rfl
            simp only [ptU, h3 (fs + w) (by omega) c2, h3 o ho1 ho2]
        rw [e]
        refine ptf_cong hfs h1 h2 h3 f (w + 1) _ (by omega) (fun o hoo => ?_)
        cases hoo
        cases old with
        | none => exact ⟨by simp only [ptU]; omega, c2⟩
        | some o2 =>
          obtain ⟨q1, q2⟩ := ho o2 rfl
          simp only [ptU]
          split
          · exact ⟨by omega, c2⟩
          · exact ⟨q1, q2⟩
    · rw [if_neg c1, if_neg c1]
      exact ptf_cong hfs h1 h2 h3 f (w + 1) old (by omega) ho
theorem rl_ptf (h : rl v R) (t : Int32) (a : Nat) : ptf R (hdR R) (stR R) t (a % 4 * 8) 8 0 none = ptf (vOw v) (vHd v) (vSt v) t (a % 4 * 8) 8 0 none := ptf_cong (by omega) h.1 h.2.1 h.2.2.1 8 0 none (by omega) (fun o ho => by cases ho)
theorem wfl_cong {ow ow' : Nat → Int32} {ln ln' : Nat → Nat} {t : Int32} (h1 : ∀ w, w < 8 → ow w = ow' w) (h2 : ∀ w, w < 8 → ln w = ln' w) : ∀ (f w : Nat) (b : Option Nat) (m : Nat), w + f ≤ 8 → wfl ow ln t f w b m = wfl ow' ln' t f w b m
  | 0, _, _, _, _ => rfl
  | f + 1, w, b, m, hw => by
    unfold wfl
    rw [h1 w (by omega), h2 w (by omega)]
    split
    · exact wfl_cong h1 h2 f (w + 1) _ _ (by omega)
    · exact wfl_cong h1 h2 f (w + 1) _ _ (by omega)
theorem gIn_cong {ga ga' : Nat → Int32} (h : ∀ j, j < 32 → ga j = ga' j) {t w r : Nat} (ht : t < 4) : ∀ (f e : Nat) (g : Int32) (b : gB), 1 ≤ e → gIn ga t w r f e g b = gIn ga' t w r f e g b
  | 0, _, _, _, _ => rfl
  | f + 1, e, g, b, he => by
    unfold gIn
    by_cases c : e ≤ r ∧ w + e ≤ 8
    · rw [if_pos c, if_pos c, h (t * 8 + w + e - 1) (by omega)]
      exact gIn_cong h ht f (e + 1) _ _ (by omega)
    · rw [if_neg c, if_neg c]
theorem gOut_cong {ga ga' : Nat → Int32} (h : ∀ j, j < 32 → ga j = ga' j) {W : Nat → Nat} {r : Nat} : ∀ (f t : Nat) (b : gB), t + f ≤ 4 → gOut ga W r f t b = gOut ga' W r f t b
  | 0, _, _, _ => rfl
  | f + 1, t, b, ht => by
    unfold gOut
    rw [gIn_cong h (by omega) 8 1 (nI 0) b (Nat.le_refl _)]
    exact gOut_cong h f (t + 1) _ (by omega)
theorem cmpW_cong {ga ga' : Nat → Int32} (h : ∀ j, j < 32 → ga j = ga' j) : ∀ (f : Nat) (W : Nat → Nat) (r : Nat), cmpW ga f W r = cmpW ga' f W r
  | 0, _, _ => rfl
  | f + 1, W, r => by
    have e : gBest ga W r = gBest ga' W r := gOut_cong h 4 0 _ (by omega)
    unfold cmpW
    rw [e]
    split
    · exact cmpW_cong h f _ _
    · rfl
theorem rl_tgt (h : rl v R) (L : Nat → Nat) : tgt L (gaR R) = tgt L (vGa v) := cmpW_cong h.2.2.2.2.1 8 L _
theorem rl_dR (h : rl v R) (L : Nat → Nat) : dR L R = mvD L v := by
  funext t
  show nI (tgt L (gaR R) t) - nI (fOwn R (nI t)) = nI (tgt L (vGa v) t) - nI (fOwn (vOw v) (nI t))
  rw [rl_tgt h, rl_own h]
theorem rl_mvWR (h : rl v R) (L : Nat → Nat) : mvWR L R = mvW L v := by
  unfold mvWR mvW
  rw [rl_dR h]
  split
  · rfl
  · exact wfl_cong h.1 (fun w hw => rl_lnW h hw) 8 0 none 5 (by omega)
theorem rl_ln (hk : vK v) (h : rl v R) : lnOK R := fun p hp => by
  rw [h.2.1 p hp]
  exact hk.2.1 p hp
theorem rl_sum (h : rl v R) {t w : Nat} (ht : t < 4) (hw : w ≤ 8) : sumI (fun p => gaR R (t * 8 + p)) w = sumI (fun p => vGa v (t * 8 + p)) w := sumI_cong (fun j hj => h.2.2.2.2.1 _ (by omega))
theorem rl_ow (h : rl v R) {w : Nat} {x : Int32} (hw : w < 8) : rl (upd (vOw v) w x, vHd v, vSt v, vAd v, vGa v, vLe v, vCo v, vEp v, vAc v) (upd R w x) := by
  obtain ⟨h1, h2, h3, h4, h5, h6, h7, h8, h9⟩ := h
  have n : ∀ j, 8 ≤ j → (upd R w x) j = R j := fun j hj => pk_un (by omega)
  refine ⟨?_,
    fun p hp => (n (8 + p) (by omega)).trans (h2 p hp),
    fun p hp hq => (n (40 + p) (by omega)).trans (h3 p hp hq),
    fun q hq => (h4 q hq).elim fun m hm => ⟨m, hm.1, (n (72 + q) (by omega)).trans hm.2.1, hm.2.2.1, fun j hj => (n (80 + 9 * q + j) (by have := hm.1; omega)).trans (hm.2.2.2 j hj)⟩,
    fun j hj => (n (152 + j) (by omega)).trans (h5 j hj),
    fun t ht => (n (184 + t) (by omega)).trans (h6 t ht),
    (n 188 (by omega)).trans h7,
    (n 189 (by omega)).trans h8,
    fun j hj => (n (190 + j) (by omega)).trans (h9 j hj)⟩
  · intro u hu
    show upd R w x u = upd (vOw v) w x u
    unfold upd
    rw [h1 u hu]
theorem rl_st (h : rl v R) {p : Nat} {y : Int32} (hp0 : p < 32) : rl (vOw v, vHd v, upd (vSt v) p y, vAd v, vGa v, vLe v, vCo v, vEp v, vAc v) (upd R (40 + p) y) := by
  obtain ⟨h1, h2, h3, h4, h5, h6, h7, h8, h9⟩ := h
  have n : ∀ j, (j < 40 ∨ 72 ≤ j) → (upd R (40 + p) y) j = R j := fun j hj => pk_un (by omega)
  refine ⟨fun u hu => (n u (by omega)).trans (h1 u hu),
    fun p hp => (n (8 + p) (by omega)).trans (h2 p hp),
    ?_,
    fun q hq => (h4 q hq).elim fun m hm => ⟨m, hm.1, (n (72 + q) (by omega)).trans hm.2.1, hm.2.2.1, fun j hj => (n (80 + 9 * q + j) (by have := hm.1; omega)).trans (hm.2.2.2 j hj)⟩,
    fun j hj => (n (152 + j) (by omega)).trans (h5 j hj),
    fun t ht => (n (184 + t) (by omega)).trans (h6 t ht),
    (n 188 (by omega)).trans h7,
    (n 189 (by omega)).trans h8,
    fun j hj => (n (190 + j) (by omega)).trans (h9 j hj)⟩
  · intro u hu hq
    show upd R (40 + p) y (40 + u) = upd (vSt v) p y u
    unfold upd
    by_cases c : u = p
    · rw [if_pos c, if_pos (by omega)]
    · rw [if_neg c, if_neg (by omega)]
      exact h3 u hu hq
theorem rl_put (h : rl v R) {p : Nat} {x y : Int32} (hp0 : p < 32) : rl (vOw v, upd (vHd v) p x, upd (vSt v) p y, vAd v, vGa v, vLe v, vCo v, vEp v, vAc v) (upd (upd R (8 + p) x) (40 + p) y) := by
  obtain ⟨h1, h2, h3, h4, h5, h6, h7, h8, h9⟩ := h
  have n : ∀ j, (j < 8 ∨ 72 ≤ j) → (upd (upd R (8 + p) x) (40 + p) y) j = R j := fun j hj => (pk_un (by omega)).trans (pk_un (by omega))
  refine ⟨fun u hu => (n u (by omega)).trans (h1 u hu),
    ?_,
    ?_,
    fun q hq => (h4 q hq).elim fun m hm => ⟨m, hm.1, (n (72 + q) (by omega)).trans hm.2.1, hm.2.2.1, fun j hj => (n (80 + 9 * q + j) (by have := hm.1; omega)).trans (hm.2.2.2 j hj)⟩,
    fun j hj => (n (152 + j) (by omega)).trans (h5 j hj),
    fun t ht => (n (184 + t) (by omega)).trans (h6 t ht),
    (n 188 (by omega)).trans h7,
    (n 189 (by omega)).trans h8,
    fun j hj => (n (190 + j) (by omega)).trans (h9 j hj)⟩
  · intro u hu
    show upd (upd R (8 + p) x) (40 + p) y (8 + u) = upd (vHd v) p x u
    unfold upd
    rw [if_neg (by omega)]
    by_cases c : u = p
    · rw [if_pos c, if_pos (by omega)]
    · rw [if_neg c, if_neg (by omega)]
      exact h2 u hu
  · intro u hu hq
    show upd (upd R (8 + p) x) (40 + p) y (40 + u) = upd (vSt v) p y u
    have hq : ¬ upd (vHd v) p x u = -1 := hq
    unfold upd at hq ⊢
    by_cases c : u = p
    · rw [if_pos c, if_pos (by omega)]
    · rw [if_neg c] at hq
      rw [if_neg c, if_neg (by omega), if_neg (by omega)]
      exact h3 u hu hq
theorem rl_rm (h : rl v R) (t : Nat) : rl (vOw v, rmv (vHd v) (nI t), vSt v, vAd v, vGa v, vLe v, vCo v, vEp v, vAc v) (flI R t 32) := by
  obtain ⟨h1, h2, h3, h4, h5, h6, h7, h8, h9⟩ := h
  have n : ∀ j, (j < 8 ∨ 72 ≤ j) → (flI R t 32) j = R j := fun j hj => by
    unfold flI
    rw [if_neg (by omega), if_neg (by omega)]
  refine ⟨fun u hu => (n u (by omega)).trans (h1 u hu),
    ?_,
    ?_,
    fun q hq => (h4 q hq).elim fun m hm => ⟨m, hm.1, (n (72 + q) (by omega)).trans hm.2.1, hm.2.2.1, fun j hj => (n (80 + 9 * q + j) (by have := hm.1; omega)).trans (hm.2.2.2 j hj)⟩,
    fun j hj => (n (152 + j) (by omega)).trans (h5 j hj),
    fun t ht => (n (184 + t) (by omega)).trans (h6 t ht),
    (n 188 (by omega)).trans h7,
    (n 189 (by omega)).trans h8,
    fun j hj => (n (190 + j) (by omega)).trans (h9 j hj)⟩
  · intro u hu
    have e1 : hol (hdR R) (nI t) u = hol (vHd v) (nI t) u := by unfold hol; rw [h2 u hu]
    show flI R t 32 (8 + u) = rmv (vHd v) (nI t) u
    unfold flI rmv
    rw [show 8 + u - 8 = u by omega, e1]
    by_cases c : hol (vHd v) (nI t) u = true
    · rw [if_pos ⟨by omega, by omega, c⟩, if_pos c]
    · rw [if_neg (fun z => c z.2.2), if_neg (by omega), if_neg c]
      exact h2 u hu
  · intro u hu hq
    have e1 : hol (hdR R) (nI t) u = hol (vHd v) (nI t) u := by unfold hol; rw [h2 u hu]
    have hq : ¬ rmv (vHd v) (nI t) u = -1 := hq
    show flI R t 32 (40 + u) = vSt v u
    unfold rmv at hq
    unfold flI
    by_cases c : hol (vHd v) (nI t) u = true
    · rw [if_pos c] at hq
      exact absurd rfl hq
    · rw [if_neg c] at hq
      rw [if_neg (by omega), show 40 + u - 40 = u by omega, e1, if_neg (fun z => c z.2.2)]
      exact h3 u hu hq
theorem rl_hv (h : rl v R)  : rl (vOw v, vHd v, vSt v, vAd v, hlv (vGa v), vLe v, vCo v, vEp v, vAc v) (hvR R) := by
  obtain ⟨h1, h2, h3, h4, h5, h6, h7, h8, h9⟩ := h
  have n : ∀ j, (j < 152 ∨ 184 ≤ j) → (hvR R) j = R j := fun j hj => by
    unfold hvR
    rw [if_neg (by omega)]
  refine ⟨fun u hu => (n u (by omega)).trans (h1 u hu),
    fun p hp => (n (8 + p) (by omega)).trans (h2 p hp),
    fun p hp hq => (n (40 + p) (by omega)).trans (h3 p hp hq),
    fun q hq => (h4 q hq).elim fun m hm => ⟨m, hm.1, (n (72 + q) (by omega)).trans hm.2.1, hm.2.2.1, fun j hj => (n (80 + 9 * q + j) (by have := hm.1; omega)).trans (hm.2.2.2 j hj)⟩,
    ?_,
    fun t ht => (n (184 + t) (by omega)).trans (h6 t ht),
    (n 188 (by omega)).trans h7,
    (n 189 (by omega)).trans h8,
    fun j hj => (n (190 + j) (by omega)).trans (h9 j hj)⟩
  · intro u hu
    show hvR R (152 + u) = vGa v u / nI 2
    unfold hvR
    rw [if_pos ⟨by omega, by omega⟩, ← h5 u hu]
theorem rl_le (h : rl v R) {t : Nat} {x : Int32} (ht0 : t < 4) : rl (vOw v, vHd v, vSt v, vAd v, vGa v, upd (vLe v) t x, vCo v, vEp v, vAc v) (upd R (184 + t) x) := by
  obtain ⟨h1, h2, h3, h4, h5, h6, h7, h8, h9⟩ := h
  have n : ∀ j, (j < 184 ∨ 188 ≤ j) → (upd R (184 + t) x) j = R j := fun j hj => pk_un (by omega)
  refine ⟨fun u hu => (n u (by omega)).trans (h1 u hu),
    fun p hp => (n (8 + p) (by omega)).trans (h2 p hp),
    fun p hp hq => (n (40 + p) (by omega)).trans (h3 p hp hq),
    fun q hq => (h4 q hq).elim fun m hm => ⟨m, hm.1, (n (72 + q) (by omega)).trans hm.2.1, hm.2.2.1, fun j hj => (n (80 + 9 * q + j) (by have := hm.1; omega)).trans (hm.2.2.2 j hj)⟩,
    fun j hj => (n (152 + j) (by omega)).trans (h5 j hj),
    ?_,
    (n 188 (by omega)).trans h7,
    (n 189 (by omega)).trans h8,
    fun j hj => (n (190 + j) (by omega)).trans (h9 j hj)⟩
  · intro u hu
    show upd R (184 + t) x (184 + u) = upd (vLe v) t x u
    unfold upd
    by_cases c : u = t
    · rw [if_pos c, if_pos (by omega)]
    · rw [if_neg c, if_neg (by omega)]
      exact h6 u hu
theorem rl_ep (h : rl v R) (x : Int32) : rl (vOw v, vHd v, vSt v, vAd v, vGa v, vLe v, vCo v, x, vAc v) (upd R 188 x) := by
  obtain ⟨h1, h2, h3, h4, h5, h6, h7, h8, h9⟩ := h
  have n : ∀ j, ¬ j = 188 → (upd R 188 x) j = R j := fun j hj => pk_un (by omega)
  refine ⟨fun u hu => (n u (by omega)).trans (h1 u hu),
    fun p hp => (n (8 + p) (by omega)).trans (h2 p hp),
    fun p hp hq => (n (40 + p) (by omega)).trans (h3 p hp hq),
    fun q hq => (h4 q hq).elim fun m hm => ⟨m, hm.1, (n (72 + q) (by omega)).trans hm.2.1, hm.2.2.1, fun j hj => (n (80 + 9 * q + j) (by have := hm.1; omega)).trans (hm.2.2.2 j hj)⟩,
    fun j hj => (n (152 + j) (by omega)).trans (h5 j hj),
    fun t ht => (n (184 + t) (by omega)).trans (h6 t ht),
    ?_,
    (n 189 (by omega)).trans h8,
    fun j hj => (n (190 + j) (by omega)).trans (h9 j hj)⟩
  · exact pk_us
theorem rl_ac (h : rl v R) (x : Int32) : rl (vOw v, vHd v, vSt v, vAd v, vGa v, vLe v, vCo v, vEp v, x) (upd R 189 x) := by
  obtain ⟨h1, h2, h3, h4, h5, h6, h7, h8, h9⟩ := h
  have n : ∀ j, ¬ j = 189 → (upd R 189 x) j = R j := fun j hj => pk_un (by omega)
  refine ⟨fun u hu => (n u (by omega)).trans (h1 u hu),
    fun p hp => (n (8 + p) (by omega)).trans (h2 p hp),
    fun p hp hq => (n (40 + p) (by omega)).trans (h3 p hp hq),
    fun q hq => (h4 q hq).elim fun m hm => ⟨m, hm.1, (n (72 + q) (by omega)).trans hm.2.1, hm.2.2.1, fun j hj => (n (80 + 9 * q + j) (by have := hm.1; omega)).trans (hm.2.2.2 j hj)⟩,
    fun j hj => (n (152 + j) (by omega)).trans (h5 j hj),
    fun t ht => (n (184 + t) (by omega)).trans (h6 t ht),
    (n 188 (by omega)).trans h7,
    ?_,
    fun j hj => (n (190 + j) (by omega)).trans (h9 j hj)⟩
  · exact pk_us
theorem rl_co (h : rl v R) {i : Nat} {x : Int32} (hi0 : i < 16) : rl (vOw v, vHd v, vSt v, vAd v, vGa v, vLe v, upd (vCo v) i x, vEp v, vAc v) (upd R (190 + i) x) := by
  obtain ⟨h1, h2, h3, h4, h5, h6, h7, h8, h9⟩ := h
  have n : ∀ j, (j < 190 ∨ 206 ≤ j) → (upd R (190 + i) x) j = R j := fun j hj => pk_un (by omega)
  refine ⟨fun u hu => (n u (by omega)).trans (h1 u hu),
    fun p hp => (n (8 + p) (by omega)).trans (h2 p hp),
    fun p hp hq => (n (40 + p) (by omega)).trans (h3 p hp hq),
    fun q hq => (h4 q hq).elim fun m hm => ⟨m, hm.1, (n (72 + q) (by omega)).trans hm.2.1, hm.2.2.1, fun j hj => (n (80 + 9 * q + j) (by have := hm.1; omega)).trans (hm.2.2.2 j hj)⟩,
    fun j hj => (n (152 + j) (by omega)).trans (h5 j hj),
    fun t ht => (n (184 + t) (by omega)).trans (h6 t ht),
    (n 188 (by omega)).trans h7,
    (n 189 (by omega)).trans h8,
    ?_⟩
  · intro u hu
    show upd R (190 + i) x (190 + u) = upd (vCo v) i x u
    unfold upd
    by_cases c : u = i
    · rw [if_pos c, if_pos (by omega)]
    · rw [if_neg c, if_neg (by omega)]
      exact h9 u hu
theorem rl_ev (h : rl v R) {p : Nat} (hp0 : p < 32) : rl (vOw v, vHd v, vSt v, vAd v, vGa v, vLe v, evC (vHd v) p 4 (vCo v), vEp v, vAc v) (evR R p) := by
  obtain ⟨h1, h2, h3, h4, h5, h6, h7, h8, h9⟩ := h
  have n : ∀ j, (j < 190 ∨ 206 ≤ j) → (evR R p) j = R j := fun j hj => by
    unfold evR
    rw [if_neg (by omega)]
  refine ⟨fun u hu => (n u (by omega)).trans (h1 u hu),
    fun p hp => (n (8 + p) (by omega)).trans (h2 p hp),
    fun p hp hq => (n (40 + p) (by omega)).trans (h3 p hp hq),
    fun q hq => (h4 q hq).elim fun m hm => ⟨m, hm.1, (n (72 + q) (by omega)).trans hm.2.1, hm.2.2.1, fun j hj => (n (80 + 9 * q + j) (by have := hm.1; omega)).trans (hm.2.2.2 j hj)⟩,
    fun j hj => (n (152 + j) (by omega)).trans (h5 j hj),
    fun t ht => (n (184 + t) (by omega)).trans (h6 t ht),
    (n 188 (by omega)).trans h7,
    (n 189 (by omega)).trans h8,
    ?_⟩
  · intro u hu
    show evR R p (190 + u) = evC (vHd v) p 4 (vCo v) u
    have e1 : ∀ t, hol (hdR R) t p = hol (vHd v) t p := fun t => by unfold hol; rw [h2 p hp0]
    unfold evR
    rw [if_pos ⟨by omega, by omega⟩, show 190 + u - 190 = u by omega]
    unfold evC
    rw [e1]
    split
    · exact congrArg (· + nI 1) (h9 u hu)
    · exact h9 u hu
theorem rl_cong {R' : Nat → Int32} (h : rl v R) (n : ∀ j, j < 206 → R' j = R j) : rl v R' := by
  obtain ⟨h1, h2, h3, h4, h5, h6, h7, h8, h9⟩ := h
  refine ⟨fun u hu => (n u (by omega)).trans (h1 u hu),
    fun p hp => (n (8 + p) (by omega)).trans (h2 p hp),
    fun p hp hq => (n (40 + p) (by omega)).trans (h3 p hp hq),
    fun q hq => (h4 q hq).elim fun m hm => ⟨m, hm.1, (n (72 + q) (by omega)).trans hm.2.1, hm.2.2.1, fun j hj => (n (80 + 9 * q + j) (by have := hm.1; omega)).trans (hm.2.2.2 j hj)⟩,
    fun j hj => (n (152 + j) (by omega)).trans (h5 j hj),
    fun t ht => (n (184 + t) (by omega)).trans (h6 t ht),
    (n 188 (by omega)).trans h7,
    (n 189 (by omega)).trans h8,
    fun j hj => (n (190 + j) (by omega)).trans (h9 j hj)⟩
end MR1
