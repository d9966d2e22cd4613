/-! The whole state of a cache, told once; histories, slots, counts of lines. -/
section MR3
abbrev cT : Type := gV × Nat × (Nat → Nat) × (Nat → gV) × Nat × Nat × (Nat → Int32) × gV × gV
def sh (P : Nat → Int32) (b : Nat) : Nat → Int32 := fun j => P (b + j)
def hyR (H : Nat → gV) (o s : Nat) (P : Nat → Int32) : Prop := ∀ k, k < s → rl (H ((o + k) % 6)) (sh P (206 * k))
def slR (sf : Nat → Int32) (z0 z1 : gV) (S : Nat → Int32) : Prop := ∀ q, q < 2 → ¬ sf q = 0 → rl (svZ q 0 z0 z1) (sh S (206 * q))
def inv (c : cT) : Prop := match c with
  | (v, n, ch, H, o, s, _, z0, z1) => o < 6 ∧ s ≤ 6 ∧ n ≤ 80 ∧ (∀ j, ch j < 1000) ∧ vK v ∧ (∀ k, vK (H k)) ∧ vK z0 ∧ vK z1
def mW (c : cT) (th : Int32) (es : List gE) : Prop := match c with
  | (v, n, ch, H, o, s, sf, z0, z1) => ∃ R P S tg at0 nu, es = mdW R P S sf tg (nF ch) (nI s) (nI n) at0 nu th [] ∧ rl v R ∧ hyR H o s P ∧ slR sf z0 z1 S
def an : Nat → Int32 → Int32
  | 0, a => a
  | _ + 1, _ => nI 0
def lfv (v : gV) : Nat → Nat := fun t => (vLe v t).toNatClampNeg
theorem lfv_ok {v : gV} (hk : vK v) : ∀ t, t < 4 → vLe v t = nI (lfv v t) ∧ lfv v t ≤ 2 := fun t ht => by
  obtain ⟨l, hl, e⟩ := hk.2.2.1 t ht
  have e2 : lfv v t = l := by
    unfold lfv
    rw [e]
    exact nI_clamp (by omega)
  rw [e2]
  exact ⟨e, hl⟩
theorem inB_t {x : Int32} {lo hi : Nat} (h : inA x lo hi) (hh : hi < 2 ^ 31) : (decide (nI lo ≤ x) && decide (x ≤ nI hi)) = true := by
  obtain ⟨n, h1, h2, rfl⟩ := h
  rw [decide_eq_true ((nI_leI (by omega) (by omega)).mpr h1), decide_eq_true ((nI_leI (by omega) (by omega)).mpr h2)]
  rfl
theorem inB_f {x : Int32} {lo hi : Nat} (h : ¬ inA x lo hi) (hlo : lo < 2 ^ 31) (hh : hi < 2 ^ 31 - 1) : (decide (nI lo ≤ x) && decide (x ≤ nI hi)) = false := by
  rw [← Bool.not_eq_true, Bool.and_eq_true, decide_eq_true_iff, decide_eq_true_iff]
  intro ⟨h1, h2⟩
  have h3 : x < nI (hi + 1) := Int32.lt_of_le_of_lt h2 ((nI_ltI (by omega) (by omega)).mpr (by omega))
  obtain ⟨n, hn, rfl⟩ := nI_inR (by omega) (Int32.le_trans (nI_pos' hlo) h1) h3
  rw [nI_leI (by omega) (by omega)] at h1
  exact h ⟨n, h1, by omega, rfl⟩
theorem inI_A {x : Int32} {b : Nat} (hb : 0 < b) : inI x b ↔ inA x 0 (b - 1) := ⟨fun ⟨n, h1, h2⟩ => ⟨n, Nat.zero_le _, by omega, h2⟩, fun ⟨n, _, h1, h2⟩ => ⟨n, by omega, h2⟩⟩
theorem inIB_t {x : Int32} {b m : Nat} (h : inI x b) (hm : b = m + 1) (hb : b < 2 ^ 31) : (decide (nI 0 ≤ x) && decide (x ≤ nI m)) = true := by
  obtain ⟨n, h1, h2⟩ := h
  exact inB_t ⟨n, Nat.zero_le _, by omega, h2⟩ (by omega)
theorem inIB_f {x : Int32} {b m : Nat} (h : ¬ inI x b) (hm : b = m + 1) (hb : b < 2 ^ 31 - 1) : (decide (nI 0 ≤ x) && decide (x ≤ nI m)) = false := inB_f (fun ⟨n, _, h1, h2⟩ => h ⟨n, by omega, h2⟩) (by decide) (by omega)
-- histories
theorem qs_ps {s : Nat} (h : s ≤ 6) : qS s + 1 = psS s := by
  unfold qS psS
  split <;> split <;> omega
theorem hr_push {H : Nat → gV} {o s : Nat} {P R : Nat → Int32} {v : gV} (ho : o < 6) (hs : s ≤ 6) (h : hyR H o s P) (hr : rl v R) : hyR (psH H o s v) (psO o s) (psS s) (rcP R P s 206) := by
  intro k hk
  have hup : ∀ i, psH H o s v i = if i = (o + s) % 6 then v else H i := fun i => by
    unfold psH hUp
    by_cases c : i = (o + s) % 6
    · rw [if_pos c, c, Nat.beq_refl]
      rfl
    · rw [if_neg c, show Nat.beq i ((o + s) % 6) = false from Bool.eq_false_iff.mpr (fun z => c (Nat.eq_of_beq_eq_true z))]
      rfl
  rw [hup]
  by_cases c6 : s < 6
  · have e1 : psO o s = o := if_pos c6
    have e2 : psS s = s + 1 := if_pos c6
    have e3 : qS s = s := if_neg (by omega)
    rw [e1]
    rw [e2] at hk
    by_cases ck : k = s
    · subst ck
      rw [if_pos rfl]
      refine rl_cong hr (fun j hj => ?_)
      show rcP R P k 206 (206 * k + j) = R j
      unfold rcP
      rw [e3, if_pos ⟨by omega, by omega⟩, show 206 * k + j - 206 * k = j by omega]
    · rw [if_neg (by omega)]
      refine rl_cong (h k (by omega)) (fun j hj => ?_)
      show rcP R P s 206 (206 * k + j) = P (206 * k + j)
      unfold rcP pS
      rw [e3, if_neg (by omega), if_neg (by omega)]
  · have e0 : s = 6 := by omega
    subst e0
    have e1 : psO o 6 = (o + 1) % 6 := rfl
    have e2 : psS 6 = 6 := rfl
    have e3 : qS 6 = 5 := rfl
    rw [e1]
    rw [e2] at hk
    by_cases ck : k = 5
    · subst ck
      rw [if_pos (by omega)]
      refine rl_cong hr (fun j hj => ?_)
      show rcP R P 6 206 (206 * 5 + j) = R j
      unfold rcP
      rw [e3, if_pos ⟨by omega, by omega⟩, show 206 * 5 + j - 206 * 5 = j by omega]
    · rw [if_neg (by omega)]
      have h9 := h (k + 1) (by omega)
      rw [show (o + (k + 1)) % 6 = ((o + 1) % 6 + k) % 6 by omega] at h9
      refine rl_cong h9 (fun j hj => ?_)
      show rcP R P 6 206 (206 * k + j) = P (206 * (k + 1) + j)
      unfold rcP pS
      rw [e3, if_neg (by omega), if_pos ⟨rfl, by omega⟩, show 206 + (206 * k + j) = 206 * (k + 1) + j by omega]
theorem vK_psH {H : Nat → gV} {o s : Nat} {v : gV} (h : ∀ k, vK (H k)) (hv : vK v) : ∀ k, vK (psH H o s v k) := fun k => by
  unfold psH hUp
  cases Nat.beq k ((o + s) % 6)
  · exact h k
  · exact hv
-- lines
theorem cnt_sum (p : Nat → Bool) : ∀ n, cnt p n = sumN (fun k => if p k = true then 1 else 0) n
  | 0 => rfl
  | n + 1 => by
    unfold cnt sumN
    rw [cnt_sum p n]
    split <;> rfl
theorem sum_grid (g : Nat → Nat) : sumN g 32 = sumN (fun w => sumN (fun s => g (s * 8 + w)) 4) 8 := by
  simp only [sumN, Nat.reduceMul, Nat.reduceAdd]
  omega
theorem cnt_grid (p : Nat → Bool) : cnt p 32 = sumN (fun w => cnt (fun s => p (s * 8 + w)) 4) 8 := by
  rw [cnt_sum, sum_grid]
  exact sumN_cong (fun w _ => (cnt_sum (fun s => p (s * 8 + w)) 4).symm)
theorem cnt_hol (hd : Nat → Int32) (t : Int32) : cnt (hol hd t) 32 = sumN (lnW hd t) 8 := cnt_grid (hol hd t)
theorem sumN_add (f g : Nat → Nat) : ∀ n, sumN (fun k => f k + g k) n = sumN f n + sumN g n
  | 0 => rfl
  | n + 1 => by
    unfold sumN
    rw [sumN_add f g n]
    omega
theorem lf_0 {v : gV} {R : Nat → Int32} (h : rl v R) (t : Nat) : cnt (lfP R t 0) 32 = sumN (lnW (vHd v) (nI t)) 8 := by
  rw [← cnt_hol]
  refine cnt_cong (fun p hp => ?_)
  unfold lfP
  rw [rl_hol h hp, decide_eq_true rfl, Bool.true_or, Bool.and_true]
theorem lf_b {v : gV} {R : Nat → Int32} (h : rl v R) (t : Nat) (b : Int32) : nI (cnt (lfP R t b) 32) = liR v t b := by
  unfold liR
  by_cases c : b = 0
  · subst c
    rw [lf_0 h, if_pos rfl, pk_sub (Nat.zero_le _), Nat.sub_zero]
  · rw [if_neg c]
    have e1 : cnt (lfP R t b) 32 = sumN (fun w => if vOw v w = nI t then 0 else lnW (vHd v) (nI t) w) 8 := by
      rw [cnt_grid]
      refine sumN_cong (fun w hw => ?_)
      by_cases c2 : vOw v w = nI t
      · rw [if_pos c2]
        refine cnt_0 (fun s hs => ?_)
        unfold lfP
        rw [show (s * 8 + w) % 8 = w by omega, h.1 w hw, decide_eq_false c, decide_eq_false (fun z => z c2)]
        simp
      · rw [if_neg c2]
        refine cnt_cong (fun s hs => ?_)
        unfold lfP
        rw [show (s * 8 + w) % 8 = w by omega, h.1 w hw, decide_eq_true c2, Bool.or_true, Bool.and_true, rl_hol h (by omega)]
    have e2 : sumN (lnW (vHd v) (nI t)) 8 = sumN (lnO (vOw v) (vHd v) (nI t)) 8 + cnt (lfP R t b) 32 := by
      rw [e1, ← sumN_add]
      refine sumN_cong (fun w hw => ?_)
      unfold lnO
      split <;> omega
    rw [e2, pk_sub (by omega), Nat.add_sub_cancel_left]
theorem al_all {v : gV} {R : Nat → Int32} (h : rl v R) : alR R = allN (vHd v) := by
  unfold alR allN
  rw [show lfP R 0 0 = lfP R 0 0 from rfl, lf_0 h 0, lf_0 h 1, lf_0 h 2, lf_0 h 3]
  simp only [sumN]
  omega
end MR3
