/-! The state: what the law asks of an access. -/
section PF1
variable {v : gV}
theorem k_cnt (v : gV) (t a : Nat) : vCo (acB v t a) (t * 4 + acR v t a) = vCo v (t * 4 + acR v t a) + nI 1 := by
  have := acR_le v t a
  rw [acB_co (by omega), pk_us]
theorem k_1 {t a : Nat} (h : acR v t a = 1) : ¬ fdR (vHd v) t a < 0 ∧ vHd (acB v t a) = vHd v :=
  ⟨fun z => fd_neg.mp z ((acR_fF v t a).1.mp h), (acB_hd v t a).1 (by omega)⟩
theorem k_2 {t a : Nat} (h : acR v t a = 2) : fdR (vHd v) t a < 0 ∧ vHd (acB v t a) = vHd v ∧ fOwn (vOw (acB v t a)) (nI t) = 0 := by
  obtain ⟨h1, h2⟩ := (acR_fF v t a).2.1.mp h
  refine ⟨fd_neg.mpr h1, (acB_hd v t a).1 (by omega), ?_⟩
  rw [(acB_c v t a).1]
  exact h2
theorem k_0 {B : Nat} (hV : pV v B) {t a : Nat} (ht : t < 4) (ha : a < 256) (h : acR v t a = 0) : ∃ p i, p < 32 ∧ i < 8 ∧ fdR (vHd v) t a < 0 ∧ vHd (acB v t a) = upd (vHd v) p (lnN t a) ∧ ptP v t a = some p ∧ fdR (vHd (acB v t a)) t a = nI i ∧ vOw (acB v t a) i = nI t ∧ vcR v t a = vHd v p ∧ nE (vHd (acB v t a)) = nE (vHd v) + if vHd v p = -1 then 1 else 0 := by
  obtain ⟨hk, hS, hU, hM, hG, hC, hE⟩ := id hV
  obtain ⟨d1, d2⟩ := (acR_fF v t a).2.2.mp h
  obtain ⟨p, hp, p1, p2, p3⟩ := pt_some (a := a) d2
  have e := (acB_hd v t a).2 p h hp
  have hS' := pS_put (p := p) hS ht ha (by omega)
  have hU' := pU_put (p := p) hS hU ht ha d1
  have hf := (fF_line hS' hU' (p := p) (by omega) ht ha (pk_us)).2
  refine ⟨p, p % 8, by omega, by omega, fd_neg.mpr d1, e, hp, ?_, ?_, ?_, ?_⟩
  · rw [e]
    unfold fdR
    rw [hf, if_pos (by omega)]
  · rw [(acB_c v t a).1, ← p3]
    exact congrArg _ (by omega)
  · unfold vcR
    rw [if_pos h, hp]
  · rw [e]
    exact nE_put (by omega) (lnN_ne ht ha)
theorem evC_in {hd co : Nat → Int32} {p m i : Nat} (h1 : i % 4 = 3) (h2 : i / 4 < m) (h3 : hol hd (nI (i / 4)) p = true) : evC hd p m co i = co i + nI 1 := if_pos ⟨h1, h2, h3⟩
theorem brQ_co (w : gV) (t a p i : Nat) : vCo (brQ w t a p) i = evC (vHd w) p 4 (vCo w) i := rfl
theorem acA_hd (v : gV) (t a : Nat) : vHd (acA v t a) = vHd v := rfl
theorem acA_co (v : gV) (t a : Nat) : vCo (acA v t a) = upd (vCo v) (t * 4 + acR v t a) (vCo v (t * 4 + acR v t a) + nI 1) := rfl
theorem acB_ev {t a p t2 : Nat} (h : acR v t a = 0) (hp : ptP v t a = some p) (ht2 : t2 < 4) (hh : hol (vHd v) (nI t2) p = true) : vCo (acB v t a) (t2 * 4 + 3) = vCo v (t2 * 4 + 3) + nI 1 := by
  have e : acB v t a = brQ (acA v t a) t a p := by
    unfold acB
    rw [if_neg (by omega), if_pos h]
    have hp2 : ptP (acA v t a) t a = some p := hp
    unfold brV
    rw [hp2]
  have hr := acR_le v t a
  have e3 : (t2 * 4 + 3) / 4 = t2 := by omega
  rw [e, brQ_co, acA_hd, evC_in (by omega) (by omega) (by rw [e3]; exact hh), acA_co, pk_un (by omega)]
theorem k_v {B : Nat} (hV : pV v B) {t a : Nat} (ht : t < 4) (ha : a < 256) : vcR v t a = -1 ∨ ∃ t2 a2, t2 < 4 ∧ a2 < 256 ∧ vcR v t a = nI (t2 * 256 + a2) ∧ acR v t a = 0 ∧ vCo (acB v t a) (t2 * 4 + 3) = vCo v (t2 * 4 + 3) + nI 1 ∧ fdR (vHd (acB v t a)) t2 a2 < 0 := by
  by_cases h : acR v t a = 0
  · obtain ⟨hk, hS, hU, hM, hG, hC, hE⟩ := id hV
    obtain ⟨p, i, hp, hi, h1, h2, h3, h4, h5, h6, h7⟩ := k_0 hV ht ha h
    rw [h6]
    rcases hk.2.1 p hp with c | ⟨c, hc, e⟩
    · exact Or.inl c
    · refine Or.inr ⟨c / 256, c % 256, by omega, by omega, by rw [e]; exact congrArg nI (by omega), h, acB_ev h h3 (by omega) (by rw [hol_c e hc (by omega)]; simp), ?_⟩
      rw [h2]
      have hn : ¬ vHd v p = -1 := by
        rw [e]
        exact nI_m1 (by omega)
      have hl : lnN (c / 256) (c % 256) = vHd v p := by
        rw [lnN_eq, e]
        exact congrArg nI (by omega)
      have hpd := (acR_fF v t a).2.2.mp h
      have pset : c % 4 = p / 8 := hS p hp c hc e
      refine fd_neg.mpr (fun z => ?_)
      have z2 := fF_at z
      have z3 : c % 256 % 4 * 8 + fF (upd (vHd v) p (lnN t a)) (lnN (c / 256) (c % 256)) (c % 256 % 4 * 8) < 32 := by omega
      generalize c % 256 % 4 * 8 + fF (upd (vHd v) p (lnN t a)) (lnN (c / 256) (c % 256)) (c % 256 % 4 * 8) = r at z2 z3
      rw [hl] at z2
      by_cases y : r = p
      · rw [y, pk_us] at z2
        have := (fF_line hS hU hp ht ha z2.symm).2
        exact hpd.1 (by rw [this]; omega)
      · rw [pk_un y] at z2
        exact y (hU r p z3 hp z2 (by rw [z2]; exact hn))
  · refine Or.inl ?_
    unfold vcR
    rw [if_neg h]
theorem nAd_1 {ad : Nat → Int32} {q n a : Nat} (ha : a < 256) (hn : n ≤ 8) (hl : liK ad q n) (d : ¬ psN ad q a = 0) : nAd ad (q * 8) a (q * 8 + 1) = ad (q * 8 + 0) := by
  have h1 : 1 ≤ nL ad (q * 8) a := by
    by_cases d2 : psN ad q a < 8
    · have e := psN_at d2
      have h1 : psN ad q a < n := Nat.lt_of_not_le (fun z => liK_no ha hl z d2 e)
      have e2 := (liK_hit ha hn hl h1 e).1
      omega
    · have d8 : psN ad q a = 8 := by
        have := psN_le ad q a
        omega
      have e2 := (liK_new ha hn hl (fun j hj => psN_no d8 (by omega))).1
      omega
  rw [nAd_at, if_neg (by omega), if_pos h1]
theorem k_s {B : Nat} (hV : pV v B) {t a : Nat} (ht : t < 4) (ha : a < 256) (hev : a % 2 = 0) : vAd (acB v t a) (mqI t a * 8 + 0) = nI a ∧ gsM (vGa (acB v t a)) t = gsM (vGa v) t + (if psN (vAd v) (mqI t a) a < 8 then nI 1 else nI 0) ∧ (psN (vAd v) (mqI t a) a < 8 → vGa (acB v t a) (t * 8 + psN (vAd v) (mqI t a) a) = vGa v (t * 8 + psN (vAd v) (mqI t a) a) + nI 1) ∧ (¬ psN (vAd v) (mqI t a) a = 0 → vAd (acB v t a) (mqI t a * 8 + 1) = vAd v (mqI t a * 8 + 0)) := by
  have hM : pM (vAd v) := hV.2.2.2.1
  have c2 : vAd (acB v t a) = nAd (vAd v) (mqI t a * 8) a := ((acB_c v t a).2.1).trans (ntAd_eq hev)
  have c3 : vGa (acB v t a) = nGa (vAd v) (vGa v) t (mqI t a * 8) a := ((acB_c v t a).2.2.1).trans (ntGa_eq hev)
  clear hV
  generalize acB v t a = w at c2 c3
  have hq := mqI_lt (a := a) ht
  generalize mqI t a = q at hq c2 c3
  obtain ⟨n, hn, hl⟩ := hM q hq
  rw [c2, c3]
  clear c2 c3
  generalize vAd v = ad at hM hl
  generalize vGa v = ga
  refine ⟨by rw [nAd_at, if_pos rfl], ?_, fun d => ?_, fun d => ?_⟩
  · by_cases d : psN ad q a < 8
    · rw [nGa_hit ha hl d, if_pos d]
      unfold gsM
      rw [sumI_upd, if_pos ⟨by omega, by omega⟩]
    · rw [nGa_no (by have := psN_le ad q a; omega), if_neg d, nI_0, Int32.add_zero]
  · rw [nGa_hit ha hl d, pk_us]
  · exact nAd_1 ha hn hl d
theorem k_o {t a : Nat} (hev : ¬ a % 2 = 0) : gsM (vGa (acB v t a)) t = gsM (vGa v) t := by
  have e : ntGa v t a = vGa v := if_neg hev
  rw [(acB_c v t a).2.2.1, e]
end PF1
