/-! The state: ways moved and given, least numbers, gains halved, lines removed, streams. -/
section PE1
variable {v : gV}
theorem tgt_8 {L : Nat → Nat} (hL : ∀ t, t < 4 → L t ≤ 2) (ga : Nat → Int32) : sumN (tgt L ga) 4 = 8 := tgt_sum (by
  have a0 := hL 0 (by decide)
  have a1 := hL 1 (by decide)
  have a2 := hL 2 (by decide)
  have a3 := hL 3 (by decide)
  simp only [sumN]
  omega)
theorem lfv_2 {B : Nat} (h : pV v B) : ∀ t, t < 4 → lfv v t ≤ 2 := fun t ht => (lfv_ok h.1 t ht).2
abbrev tgV (v : gV) (t : Nat) : Nat := tgt (lfv v) (vGa v) t
theorem tgV_sum {B : Nat} (h : pV v B) : sumN (tgV v) 4 = 8 := tgt_8 (lfv_2 h) _
theorem tgV_le {B : Nat} (h : pV v B) {t : Nat} (ht : t < 4) : tgV v t ≤ 8 := by
  have := sum_le (W := tgV v) ht
  have := tgV_sum h
  omega
theorem cmpW_ge {ga : Nat → Int32} {t : Nat} : ∀ (f : Nat) (W : Nat → Nat) (r : Nat), W t ≤ cmpW ga f W r t
  | 0, _, _ => Nat.le_refl _
  | f + 1, W, r => by
    unfold cmpW
    split
    · refine Nat.le_trans ?_ (cmpW_ge f _ _)
      unfold gNew
      split <;> omega
    · exact Nat.le_refl _
theorem tgt_ge (L : Nat → Nat) (ga : Nat → Int32) (t : Nat) : L t ≤ tgt L ga t := cmpW_ge 8 L _
theorem fOwn_le (ow : Nat → Int32) (x : Int32) : fOwn ow x ≤ 8 := cnt_le _ 8
theorem mx_N {T O : Nat} (hT : T ≤ 8) (hO : O ≤ 8) : (if nI T - nI O < nI 0 then nI 0 else nI T - nI O) = nI (T - O) := by
  by_cases c : O ≤ T
  · rw [pk_sub c, if_neg]
    exact nI_pos (by omega)
  · rw [if_pos (show nI T - nI O < nI 0 from pk_sneg (by omega) (by omega)), show T - O = 0 by omega]
theorem sumI_N {f : Nat → Int32} {g : Nat → Nat} : ∀ {n : Nat}, (∀ j, j < n → f j = nI (g j)) → sumI f n = nI (sumN g n)
  | 0, _ => rfl
  | n + 1, h => by
    unfold sumI sumN
    rw [h n (by omega), sumI_N (fun j hj => h j (by omega)), nI_add]
theorem mx_sum {B : Nat} (h : pV v B) : sumI (mxD (lfv v) v) 4 = nI (sumN (fun t => tgV v t - fOwn (vOw v) (nI t)) 4) := sumI_N (fun t ht => mx_N (tgV_le h ht) (fOwn_le _ _))
theorem wfl_own {ow : Nat → Int32} {ln : Nat → Nat} {t : Int32} : ∀ (f w : Nat) (b : Option Nat) (m p : Nat), (∀ q, b = some q → ow q = t) → wfl ow ln t f w b m = some p → ow p = t
  | 0, _, _, _, p, hb, h => hb p h
  | f + 1, w, b, m, p, hb, h => by
    unfold wfl at h
    split at h
    · rename_i c
      exact wfl_own f (w + 1) (some w) _ p (fun q hq => by cases hq; exact c.1) h
    · exact wfl_own f (w + 1) b _ p hb h
theorem own_4 {B : Nat} (h : pV v B) : sumN (fun t => fOwn (vOw v) (nI t)) 4 = 8 := by
  have := own_sum (ow := vOw v) 8 h.1.1
  simp only [sumN, fOwn]
  omega
theorem own_put {ow : Nat → Int32} {w d r : Nat} (hw : w < 8) (hd : d < 4) (hr : r < 4) (hne : ¬ d = r) (ho : ow w = nI d) : fOwn (upd ow w (nI r)) (nI r) = fOwn ow (nI r) + 1 ∧ fOwn ow (nI d) = fOwn (upd ow w (nI r)) (nI d) + 1 ∧ ∀ t, t < 4 → ¬ t = d → ¬ t = r → fOwn (upd ow w (nI r)) (nI t) = fOwn ow (nI t) := by
  have hdr : ¬ nI d = nI r := fun z => hne (nI_inj z (by omega) (by omega))
  refine ⟨cnt_one (k := w) (fun j hj => by rw [pk_un hj]) (by simp [pk_us]) (by simp [ho, hdr]) 8 hw, cnt_one (k := w) (fun j hj => by rw [pk_un hj]) (by simp [ho]) (by simp only [pk_us, decide_eq_true_iff]; exact fun z => hdr z.symm) 8 hw, fun t ht h1 h2 => cnt_cong (fun j hj => ?_)⟩
  by_cases c : j = w
  · rw [c, pk_us, ho, decide_eq_false (fun z => h2 (nI_inj z (by omega) (by omega)).symm), decide_eq_false (fun z => h1 (nI_inj z (by omega) (by omega)).symm)]
  · rw [pk_un c]
theorem pV_mv {B : Nat} (h : pV v B) (L : Nat → Nat) : pV (mvV L v) B := ⟨vK_mv h.1 L, h.2⟩
theorem mvs {B : Nat} (h : pV v B) : (mvW (lfv v) v = none ∧ sumI (mxD (lfv v) v) 4 = nI 0) ∨ ∃ w d r, mvW (lfv v) v = some w ∧ w < 8 ∧ d < 4 ∧ r < 4 ∧ ¬ d = r ∧ vOw v w = nI d ∧ vOw (mvV (lfv v) v) = upd (vOw v) w (nI r) ∧ sumI (mxD (lfv (mvV (lfv v) v)) (mvV (lfv v) v)) 4 = sumI (mxD (lfv v) v) 4 - nI 1 ∧ tgV (mvV (lfv v) v) d ≤ fOwn (vOw (mvV (lfv v) v)) (nI d) ∧ fOwn (vOw (mvV (lfv v) v)) (nI r) ≤ tgV (mvV (lfv v) v) r := by
  have hL := lfv_ok h.1
  have hm := amax_le (mvD (lfv v) v) 3
  have hm2 := amin_le (mvD (lfv v) v) 3
  have hmx := amax_max (mvD (lfv v) v) 3
  have hmn := amin_min (mvD (lfv v) v) 3
  have hi : ∀ t, t < 4 → (mvD (lfv v) v t).toInt = (tgV v t : Int) - (fOwn (vOw v) (nI t) : Int) := fun t ht => by
    have h1 := tgV_le h ht
    have h2 := fOwn_le (vOw v) (nI t)
    have h3 : mvD (lfv v) v t = nI (tgV v t) - nI (fOwn (vOw v) (nI t)) := rfl
    rw [h3]
    exact pk_sub_toInt (by omega) (by omega)
  have hs := tgV_sum h
  have ho := own_4 h
  have mxs := mx_sum h
  simp only [sumN] at hs ho
  by_cases c : mvD (lfv v) v (amax (mvD (lfv v) v) 3) = 0
  · refine Or.inl ⟨if_pos c, ?_⟩
    rw [mxs]
    have hz : ∀ t, t < 4 → tgV v t ≤ fOwn (vOw v) (nI t) := fun t ht => by
      have h1 := hmx t (by omega)
      rw [Int32.lt_iff_toInt_lt, c, hi t ht] at h1
      have : (0 : Int32).toInt = 0 := rfl
      omega
    rw [sumN_0 (fun t ht => by have := hz t ht; omega)]
  · have hsome := mv_some h.1 hL c
    have e1 : mvW (lfv v) v = wfl (vOw v) (lnW (vHd v) (nI (amin (mvD (lfv v) v) 3))) (nI (amin (mvD (lfv v) v) 3)) 8 0 none 5 := if_neg c
    obtain ⟨w, hw⟩ : ∃ w, mvW (lfv v) v = some w := by
      cases hq : mvW (lfv v) v with
      | none => exact absurd hq hsome
      | some w => exact ⟨w, rfl⟩
    have hw8 : w < 8 := wfl_lt 8 0 none 5 w (by omega) (fun q hq => by cases hq) (e1.symm.trans hw)
    have hwo : vOw v w = nI (amin (mvD (lfv v) v) 3) := wfl_own 8 0 none 5 w (fun q hq => by cases hq) (e1.symm.trans hw)
    have e2 : vOw (mvV (lfv v) v) = upd (vOw v) w (nI (amax (mvD (lfv v) v) 3)) := by
      show mvO (lfv v) v = _
      unfold mvO
      rw [hw]
    have pmx : ∀ t, t < 4 → (tgV v t : Int) - (fOwn (vOw v) (nI t) : Int) ≤ (tgV v (amax (mvD (lfv v) v) 3) : Int) - (fOwn (vOw v) (nI (amax (mvD (lfv v) v) 3)) : Int) := fun t ht => by
      have h1 := hmx t (by omega)
      rw [Int32.lt_iff_toInt_lt, hi t ht, hi _ (by omega)] at h1
      omega
    have pmn : ∀ t, t < 4 → (tgV v (amin (mvD (lfv v) v) 3) : Int) - (fOwn (vOw v) (nI (amin (mvD (lfv v) v) 3)) : Int) ≤ (tgV v t : Int) - (fOwn (vOw v) (nI t) : Int) := fun t ht => by
      have h1 := hmn t (by omega)
      rw [Int32.lt_iff_toInt_lt, hi t ht, hi _ (by omega)] at h1
      omega
    have hnz : ¬ (tgV v (amax (mvD (lfv v) v) 3) : Int) - (fOwn (vOw v) (nI (amax (mvD (lfv v) v) 3)) : Int) = 0 := fun z => by
      rw [← hi _ (by omega)] at z
      exact c (Int32.toInt_inj.mp z)
    generalize amax (mvD (lfv v) v) 3 = r at *
    generalize amin (mvD (lfv v) v) 3 = d at *
    have x0 := pmx 0 (by decide)
    have x1 := pmx 1 (by decide)
    have x2 := pmx 2 (by decide)
    have x3 := pmx 3 (by decide)
    have y0 := pmn 0 (by decide)
    have y1 := pmn 1 (by decide)
    have y2 := pmn 2 (by decide)
    have y3 := pmn 3 (by decide)
    have hpos : fOwn (vOw v) (nI r) < tgV v r := by omega
    have hneg : tgV v d < fOwn (vOw v) (nI d) := by
      have yr := pmn r (by omega)
      have hr4 : r = 0 ∨ r = 1 ∨ r = 2 ∨ r = 3 := by omega
      rcases hr4 with e | e | e | e <;> subst e <;> omega
    have hdr : ¬ d = r := fun z => by
      subst z
      omega
    obtain ⟨o1, o2, o3⟩ := own_put hw8 (show d < 4 by omega) (show r < 4 by omega) hdr hwo
    have hV' := pV_mv h (lfv v)
    have mxs' := mx_sum hV'
    rw [e2] at mxs'
    refine Or.inr ⟨w, d, r, hw, hw8, by omega, by omega, hdr, hwo, e2, ?_, ?_, ?_⟩
    · rw [mxs', mxs]
      have k : sumN (fun t => tgV v t - fOwn (vOw v) (nI t)) 4 = sumN (fun t => tgV (mvV (lfv v) v) t - fOwn (upd (vOw v) w (nI r)) (nI t)) 4 + 1 := by
        have et : ∀ t, tgV (mvV (lfv v) v) t = tgV v t := fun t => rfl
        simp only [sumN, et]
        have z : ∀ t, t < 4 → tgV v t - fOwn (vOw v) (nI t) = tgV v t - fOwn (upd (vOw v) w (nI r)) (nI t) + if t = r then 1 else 0 := fun t ht => by
          by_cases c1 : t = r
          · rw [c1, if_pos rfl]
            omega
          · rw [if_neg c1]
            by_cases c2 : t = d
            · rw [c2]
              omega
            · rw [o3 t ht c2 c1]
              rfl
        rw [z 0 (by decide), z 1 (by decide), z 2 (by decide), z 3 (by decide)]
        have hr4 : r = 0 ∨ r = 1 ∨ r = 2 ∨ r = 3 := by omega
        rcases hr4 with e | e | e | e <;> subst e <;> simp only [Nat.reduceEqDiff, reduceIte] <;> omega
      rw [k, pk_sub (by omega), Nat.add_sub_cancel]
    · rw [e2]
      show tgV v d ≤ _
      omega
    · rw [e2]
      show _ ≤ tgV v r
      omega
theorem mv_ch {ow : Nat → Int32} {w d r : Nat} (hw : w < 8) (hd : d < 4) (hr : r < 4) (hne : ¬ d = r) (ho : ow w = nI d) : cnt (fun k => decide (¬ upd ow w (nI r) k = ow k)) 8 = 1 := by
  have hdr : ¬ nI r = nI d := fun z => hne (nI_inj z (by omega) (by omega)).symm
  have h := cnt_one (p := fun k => decide (¬ upd ow w (nI r) k = ow k)) (q := fun _ => false) (k := w) (fun j hj => by rw [pk_un hj]; simp) (by simp [pk_us, ho, hdr]) (by decide) 8 hw
  rw [h, cnt_0 (fun _ _ => by decide)]
-- the others
theorem pV_rm {B : Nat} (h : pV v B) (t : Nat) : pV (rmV v t) B := ⟨vK_rm h.1 t, pS_rm h.2.1 _, pU_rm h.2.2.1 _, h.2.2.2⟩
theorem pV_gw {B : Nat} (h : pV v B) {w t : Nat} (ht : t < 4) : pV (upd (vOw v) w (nI t), vHd v, vSt v, vAd v, vGa v, vLe v, vCo v, vEp v, vAc v) B := ⟨vK_gw h.1 ht, h.2⟩
theorem pV_sl {B : Nat} (h : pV v B) {t l : Nat} (hl : l ≤ 2) : pV (vOw v, vHd v, vSt v, vAd v, vGa v, upd (vLe v) t (nI l), vCo v, vEp v, vAc v) B := ⟨vK_sl h.1 hl, h.2⟩
theorem hlv_N {g : Nat} (h : g < 2 ^ 31) : nI g / nI 2 = nI (g / 2) := pk_div h (by decide) (by decide)
theorem pG_hl {ga : Nat → Int32} {B : Nat} (h : pG ga B) (hB : B < 2 ^ 31) : pG (hlv ga) B := fun j hj => by
  obtain ⟨g, h1, h2⟩ := h j hj
  refine ⟨g / 2, by omega, ?_⟩
  show ga j / nI 2 = _
  rw [h2, hlv_N (by omega)]
theorem pV_hl {B : Nat} (h : pV v B) (hB : B < 2 ^ 31) : pV (hlV v) B := ⟨vK_of h.1 rfl rfl rfl rfl, h.2.1, h.2.2.1, h.2.2.2.1, pG_hl h.2.2.2.2.1 hB, h.2.2.2.2.2⟩
def gaN (ga : Nat → Int32) : Nat → Nat := fun j => (ga j).toNatClampNeg
theorem gaN_ok {ga : Nat → Int32} {B : Nat} (h : pG ga B) (hB : B < 2 ^ 31) : ∀ j, j < 32 → ga j = nI (gaN ga j) ∧ gaN ga j ≤ B := fun j hj => by
  obtain ⟨g, h1, h2⟩ := h j hj
  have e : gaN ga j = g := by
    unfold gaN
    rw [h2]
    exact nI_clamp (by omega)
  rw [e]
  exact ⟨h2, h1⟩
theorem sumN_le {f : Nat → Nat} {B : Nat} : ∀ {n : Nat}, (∀ j, j < n → f j ≤ B) → sumN f n ≤ n * B
  | 0, _ => Nat.zero_le _
  | n + 1, h => by
    unfold sumN
    have := sumN_le (n := n) (fun j hj => h j (by omega))
    have := h n (by omega)
    rw [Nat.succ_mul]
    omega
theorem sumN_half (f : Nat → Nat) : ∀ n, sumN (fun j => f j / 2) n ≤ sumN f n / 2
  | 0 => Nat.zero_le _
  | n + 1 => by
    unfold sumN
    have := sumN_half f n
    omega
theorem gsM_N {ga : Nat → Int32} {B t : Nat} (h : pG ga B) (hB : B < 2 ^ 31) (ht : t < 4) : gsM ga t = nI (sumN (fun p => gaN ga (t * 8 + p)) 8) ∧ sumN (fun p => gaN ga (t * 8 + p)) 8 ≤ 8 * B :=
  ⟨sumI_N (fun p hp => (gaN_ok h hB _ (by omega)).1), sumN_le (fun p hp => (gaN_ok h hB _ (by omega)).2)⟩
theorem sumN_32 (f : Nat → Nat) : sumN f 32 = sumN (fun p => f (0 * 8 + p)) 8 + sumN (fun p => f (1 * 8 + p)) 8 + sumN (fun p => f (2 * 8 + p)) 8 + sumN (fun p => f (3 * 8 + p)) 8 := by
  simp only [sumN, Nat.reduceMul, Nat.reduceAdd]
  omega
theorem gs_all {ga : Nat → Int32} {B : Nat} (h : pG ga B) (hB : B < 2 ^ 31) : sumI ga 32 = gsM ga 0 + gsM ga 1 + gsM ga 2 + gsM ga 3 := by
  rw [(gsM_N h hB (t := 0) (by decide)).1, (gsM_N h hB (t := 1) (by decide)).1, (gsM_N h hB (t := 2) (by decide)).1, (gsM_N h hB (t := 3) (by decide)).1, nI_add, nI_add, nI_add, ← sumN_32]
  exact sumI_N (fun j hj => (gaN_ok h hB j hj).1)
theorem hl_le {ga : Nat → Int32} {B : Nat} (h : pG ga B) (hB : B ≤ 10000) : sumI (hlv ga) 32 ≤ gsM ga 0 / nI 2 + gsM ga 1 / nI 2 + gsM ga 2 / nI 2 + gsM ga 3 / nI 2 := by
  have k := fun t (ht : t < 4) => gsM_N h (by omega) ht
  obtain ⟨a0, b0⟩ := k 0 (by decide)
  obtain ⟨a1, b1⟩ := k 1 (by decide)
  obtain ⟨a2, b2⟩ := k 2 (by decide)
  obtain ⟨a3, b3⟩ := k 3 (by decide)
  have e : sumI (hlv ga) 32 = nI (sumN (fun j => gaN ga j / 2) 32) := sumI_N (fun j hj => by
    obtain ⟨h1, h2⟩ := gaN_ok h (by omega) j hj
    show ga j / nI 2 = _
    rw [h1, hlv_N (by omega)])
  rw [e, a0, a1, a2, a3, hlv_N (by omega), hlv_N (by omega), hlv_N (by omega), hlv_N (by omega), nI_add, nI_add, nI_add, sumN_32 (fun j => gaN ga j / 2)]
  have s0 := sumN_half (fun p => gaN ga (0 * 8 + p)) 8
  have s1 := sumN_half (fun p => gaN ga (1 * 8 + p)) 8
  have s2 := sumN_half (fun p => gaN ga (2 * 8 + p)) 8
  have s3 := sumN_half (fun p => gaN ga (3 * 8 + p)) 8
  rw [nI_leI (by omega) (by omega)]
  omega
theorem st_ok {B t a z : Nat} (h : pV v B) (ht : t < 4) (L : Nat → Nat) : ∀ m, pV (stS L v t a z m) (B + m) ∧ vCo (stS L v t a z m) (t * 4 + 1) = vCo v (t * 4 + 1) + nI (stH L v t a z m) ∧ vAc (stS L v t a z m) = vAc v + nI m
  | 0 => ⟨h, by show _ = _ + nI 0; rw [nI_0, Int32.add_zero]; rfl, by show _ = _ + nI 0; rw [nI_0, Int32.add_zero]; rfl⟩
  | m + 1 => by
    obtain ⟨h1, h2, h3⟩ := st_ok (a := a) (z := z) h ht L m
    have e : stS L v t a z (m + 1) = acB (stS L v t a z m) t ((a + m * z) % 256) := acV_0 h1.2.2.2.2.2.2
    rw [e]
    refine ⟨pV_ac h1 ht (Nat.mod_lt _ (by decide)), ?_, ?_⟩
    · have hr := acR_le (stS L v t a z m) t ((a + m * z) % 256)
      rw [acB_co (by omega)]
      by_cases c : acR (stS L v t a z m) t ((a + m * z) % 256) = 1
      · rw [c, pk_us, h2]
        have e2 : stH L v t a z (m + 1) = stH L v t a z m + 1 := by
          show (if _ then _ else _) = _
          rw [if_pos c]
        rw [e2, ← nI_add, Int32.add_assoc]
      · rw [pk_un (by omega), h2]
        have e2 : stH L v t a z (m + 1) = stH L v t a z m := by
          show (if _ then _ else _) = _
          rw [if_neg c]
        rw [e2]
    · rw [(acB_c _ t _).2.2.2.2.2, h3, Int32.add_assoc, nI_add]
end PE1
