/-! What each method does to the whole state. -/
section MR4
theorem nI_inj {a b : Nat} (h : nI a = nI b) (ha : a < 2 ^ 31) (hb : b < 2 ^ 31) : a = b := (nI_eq ha hb).mp h
theorem vK_st {v : gV} (hk : vK v) (L : Nat → Nat) {t : Nat} (ht : t < 4) (a b : Nat) : ∀ m, vK (stS L v t a b m)
  | 0 => hk
  | m + 1 => vK_ac (vK_st hk L ht a b m) L ht (Nat.mod_lt _ (by decide))
theorem vK_rm {v : gV} (hk : vK v) (t : Nat) : vK (rmV v t) := by
  refine ⟨hk.1, fun p hp => ?_, hk.2.2.1, hk.2.2.2⟩
  show rmv (vHd v) (nI t) p = -1 ∨ ∃ c, c < 1024 ∧ rmv (vHd v) (nI t) p = nI c
  unfold rmv
  split
  · exact Or.inl rfl
  · exact hk.2.1 p hp
theorem vK_gw {v : gV} (hk : vK v) {w t : Nat} (ht : t < 4) : vK (upd (vOw v) w (nI t), vHd v, vSt v, vAd v, vGa v, vLe v, vCo v, vEp v, vAc v) := by
  refine ⟨fun u hu => ?_, hk.2.1, hk.2.2.1, hk.2.2.2⟩
  show ∃ t', t' < 4 ∧ upd (vOw v) w (nI t) u = nI t'
  unfold upd
  split
  · exact ⟨t, ht, rfl⟩
  · exact hk.1 u hu
theorem vK_sl {v : gV} (hk : vK v) {t l : Nat} (hl : l ≤ 2) : vK (vOw v, vHd v, vSt v, vAd v, vGa v, upd (vLe v) t (nI l), vCo v, vEp v, vAc v) := by
  refine ⟨hk.1, hk.2.1, fun u hu => ?_, hk.2.2.2⟩
  show ∃ l', l' ≤ 2 ∧ upd (vLe v) t (nI l) u = nI l'
  unfold upd
  split
  · exact ⟨l, hl, rfl⟩
  · exact hk.2.2.1 u hu
theorem vK_se {v : gV} (hk : vK v) {e : Nat} (he : e ≤ 200) : vK (vOw v, vHd v, vSt v, vAd v, vGa v, vLe v, vCo v, nI e, vAc v) := ⟨hk.1, hk.2.1, hk.2.2.1, e, he, rfl⟩
theorem vK_rc {v : gV} (hk : vK v) (L : Nat → Nat) {n i : Nat} {ch : Nat → Nat} (h : rcC n ch i) : vK (rcV L n ch i v) := by
  unfold rcV
  by_cases c1 : ch i = 109
  · rw [if_pos c1]
    exact vK_mv hk L
  · rw [if_neg c1]
    by_cases c2 : ch i = 104
    · rw [if_pos c2]
      exact vK_of hk rfl rfl rfl rfl
    · rw [if_neg c2]
      by_cases c3 : ch i = 102
      · rw [if_pos c3]
        exact vK_rm hk _
      · rw [if_neg c3]
        rcases h with h | h | h | h
        · exact absurd h c1
        · exact absurd h c2
        · exact absurd h.1 c3
        · exact vK_ac hk L (by omega) h.2.2
theorem vK_rt {v : gV} (hk : vK v) (L : Nat → Nat) {n : Nat} {ch : Nat → Nat} (h : ∀ i, i < n → (i = 0 ∨ ch (i - 1) = 59) → rcC n ch i) : ∀ i, i ≤ n → vK (rtS L n ch v i)
  | 0, _ => hk
  | i + 1, hi => by
    have ih := vK_rt hk L h i (by omega)
    unfold rtS
    by_cases c : i = 0 ∨ ch (i - 1) = 59
    · rw [if_pos c]
      exact vK_rc ih L (h i (by omega) c)
    · rw [if_neg c]
      exact ih
theorem vK_sv {q i : Nat} {v z : gV} (hv : vK v) (hz : vK z) : vK (svZ q i v z) := by
  unfold svZ
  cases Nat.beq q i
  · exact hz
  · exact hv
def r_access (c : cT) (x y : Int32) (k : Nat) (ans : Int32) (c' : cT) : Prop := match c with
  | (v, n, ch, H, o, s, sf, z0, z1) => (∀ t a, t < 4 → a ≤ 255 → x = nI t → y = nI a → k = 0 ∧ ans = nI (acR v t a) ∧ c' = (acV (lfv v) v t a, n, ch, psH H o s v, psO o s, psS s, sf, z0, z1)) ∧ (¬ inI x 4 → k = 1 ∧ c' = (v, n, ch, H, o, s, sf, z0, z1)) ∧ (inI x 4 → ¬ inA y 0 255 → k = 2 ∧ c' = (v, n, ch, H, o, s, sf, z0, z1))
theorem e_access {c : cT} (x y : Int32) (h : inv c) : ∃ k ans c', r_access c x y k ans c' ∧ inv c' ∧ k ≤ 2 := by
  obtain ⟨v, n, ch, H, o, s, sf, z0, z1⟩ := c
  obtain ⟨ho, hs, hn, hch, hk, hkH, hk0, hk1⟩ := id h
  by_cases q0 : inI x 4
  · obtain ⟨t, ht, rfl⟩ := q0
    by_cases q1 : inA y 0 255
    · obtain ⟨a, ha0, ha, rfl⟩ := q1
      refine ⟨0, nI (acR v t a), (acV (lfv v) v t a, n, ch, psH H o s v, psO o s, psS s, sf, z0, z1), ⟨fun t' a' l0 l1 e0 e1 => ?_, fun q => absurd ⟨t, ht, rfl⟩ q, fun _ q => absurd ⟨a, ha0, ha, rfl⟩ q⟩, ⟨(ps_ok ho).1, (ps_ok ho).2, hn, hch, vK_ac hk _ ht (by omega), vK_psH hkH hk, hk0, hk1⟩, by decide⟩
      obtain rfl := nI_inj e0 (by omega) (by omega)
      obtain rfl := nI_inj e1 (by omega) (by omega)
      exact ⟨rfl, rfl, rfl⟩
    · exact ⟨2, nI 0, (v, n, ch, H, o, s, sf, z0, z1), ⟨fun t' a' l00 l10 e0 e1 => absurd ⟨a', Nat.zero_le _, l10, e1⟩ q1, fun q => absurd ⟨t, ht, rfl⟩ q, fun _ _ => ⟨rfl, rfl⟩⟩, h, by decide⟩
  · exact ⟨1, nI 0, (v, n, ch, H, o, s, sf, z0, z1), ⟨fun t' a' l00 l10 e0 e1 => absurd ⟨t', l00, e0⟩ q0, fun _ => ⟨rfl, rfl⟩, fun q _ => absurd q q0⟩, h, by decide⟩
def r_stream (c : cT) (x y z u : Int32) (k : Nat) (ans : Int32) (c' : cT) : Prop := match c with
  | (v, n, ch, H, o, s, sf, z0, z1) => (∀ t a b m, t < 4 → a ≤ 255 → 1 ≤ b → b ≤ 64 → 1 ≤ m → m ≤ 40 → x = nI t → y = nI a → z = nI b → u = nI m → k = 0 ∧ ans = nI (stH (lfv v) v t a b m) ∧ c' = (stS (lfv v) v t a b m, n, ch, psH H o s v, psO o s, psS s, sf, z0, z1)) ∧ (¬ inI x 4 → k = 1 ∧ c' = (v, n, ch, H, o, s, sf, z0, z1)) ∧ (inI x 4 → ¬ inA y 0 255 → k = 2 ∧ c' = (v, n, ch, H, o, s, sf, z0, z1)) ∧ (inI x 4 → inA y 0 255 → ¬ inA z 1 64 → k = 2 ∧ c' = (v, n, ch, H, o, s, sf, z0, z1)) ∧ (inI x 4 → inA y 0 255 → inA z 1 64 → ¬ inA u 1 40 → k = 2 ∧ c' = (v, n, ch, H, o, s, sf, z0, z1))
theorem e_stream {c : cT} (x y z u : Int32) (h : inv c) : ∃ k ans c', r_stream c x y z u k ans c' ∧ inv c' ∧ k ≤ 2 := by
  obtain ⟨v, n, ch, H, o, s, sf, z0, z1⟩ := c
  obtain ⟨ho, hs, hn, hch, hk, hkH, hk0, hk1⟩ := id h
  by_cases q0 : inI x 4
  · obtain ⟨t, ht, rfl⟩ := q0
    by_cases q1 : inA y 0 255
    · obtain ⟨a, ha0, ha, rfl⟩ := q1
      by_cases q2 : inA z 1 64
      · obtain ⟨b, hb0, hb, rfl⟩ := q2
        by_cases q3 : inA u 1 40
        · obtain ⟨m, hm0, hm, rfl⟩ := q3
          refine ⟨0, nI (stH (lfv v) v t a b m), (stS (lfv v) v t a b m, n, ch, psH H o s v, psO o s, psS s, sf, z0, z1), ⟨fun t' a' b' m' l0 l1 l2 l3 l4 l5 e0 e1 e2 e3 => ?_, fun q => absurd ⟨t, ht, rfl⟩ q, fun _ q => absurd ⟨a, ha0, ha, rfl⟩ q, fun _ _ q => absurd ⟨b, hb0, hb, rfl⟩ q, fun _ _ _ q => absurd ⟨m, hm0, hm, rfl⟩ q⟩, ⟨(ps_ok ho).1, (ps_ok ho).2, hn, hch, vK_st hk _ ht _ _ m, vK_psH hkH hk, hk0, hk1⟩, by decide⟩
          obtain rfl := nI_inj e0 (by omega) (by omega)
          obtain rfl := nI_inj e1 (by omega) (by omega)
          obtain rfl := nI_inj e2 (by omega) (by omega)
          obtain rfl := nI_inj e3 (by omega) (by omega)
          exact ⟨rfl, rfl, rfl⟩
        · exact ⟨2, nI 0, (v, n, ch, H, o, s, sf, z0, z1), ⟨fun t' a' b' m' l00 l10 l20 l21 l30 l31 e0 e1 e2 e3 => absurd ⟨m', l30, l31, e3⟩ q3, fun q => absurd ⟨t, ht, rfl⟩ q, fun _ q => absurd ⟨a, ha0, ha, rfl⟩ q, fun _ _ q => absurd ⟨b, hb0, hb, rfl⟩ q, fun _ _ _ _ => ⟨rfl, rfl⟩⟩, h, by decide⟩
      · exact ⟨2, nI 0, (v, n, ch, H, o, s, sf, z0, z1), ⟨fun t' a' b' m' l00 l10 l20 l21 l30 l31 e0 e1 e2 e3 => absurd ⟨b', l20, l21, e2⟩ q2, fun q => absurd ⟨t, ht, rfl⟩ q, fun _ q => absurd ⟨a, ha0, ha, rfl⟩ q, fun _ _ _ => ⟨rfl, rfl⟩, fun _ _ q _ => absurd q q2⟩, h, by decide⟩
    · exact ⟨2, nI 0, (v, n, ch, H, o, s, sf, z0, z1), ⟨fun t' a' b' m' l00 l10 l20 l21 l30 l31 e0 e1 e2 e3 => absurd ⟨a', Nat.zero_le _, l10, e1⟩ q1, fun q => absurd ⟨t, ht, rfl⟩ q, fun _ _ => ⟨rfl, rfl⟩, fun _ q _ => absurd q q1, fun _ q _ _ => absurd q q1⟩, h, by decide⟩
  · exact ⟨1, nI 0, (v, n, ch, H, o, s, sf, z0, z1), ⟨fun t' a' b' m' l00 l10 l20 l21 l30 l31 e0 e1 e2 e3 => absurd ⟨t', l00, e0⟩ q0, fun _ => ⟨rfl, rfl⟩, fun q _ => absurd q q0, fun q _ _ => absurd q q0, fun q _ _ _ => absurd q q0⟩, h, by decide⟩
def r_flush (c : cT) (x : Int32) (k : Nat) (ans : Int32) (c' : cT) : Prop := match c with
  | (v, n, ch, H, o, s, sf, z0, z1) => (∀ t, t < 4 → x = nI t → k = 0 ∧ ans = nI (cnt (hol (vHd v) (nI t)) 32) ∧ c' = (rmV v t, n, ch, psH H o s v, psO o s, psS s, sf, z0, z1)) ∧ (¬ inI x 4 → k = 1 ∧ c' = (v, n, ch, H, o, s, sf, z0, z1))
theorem e_flush {c : cT} (x : Int32) (h : inv c) : ∃ k ans c', r_flush c x k ans c' ∧ inv c' ∧ k ≤ 2 := by
  obtain ⟨v, n, ch, H, o, s, sf, z0, z1⟩ := c
  obtain ⟨ho, hs, hn, hch, hk, hkH, hk0, hk1⟩ := id h
  by_cases q0 : inI x 4
  · obtain ⟨t, ht, rfl⟩ := q0
    refine ⟨0, nI (cnt (hol (vHd v) (nI t)) 32), (rmV v t, n, ch, psH H o s v, psO o s, psS s, sf, z0, z1), ⟨fun t' l0 e0 => ?_, fun q => absurd ⟨t, ht, rfl⟩ q⟩, ⟨(ps_ok ho).1, (ps_ok ho).2, hn, hch, vK_rm hk t, vK_psH hkH hk, hk0, hk1⟩, by decide⟩
    obtain rfl := nI_inj e0 (by omega) (by omega)
    exact ⟨rfl, rfl, rfl⟩
  · exact ⟨1, nI 0, (v, n, ch, H, o, s, sf, z0, z1), ⟨fun t' l00 e0 => absurd ⟨t', l00, e0⟩ q0, fun _ => ⟨rfl, rfl⟩⟩, h, by decide⟩
def r_giveWay (c : cT) (x y : Int32) (k : Nat) (ans : Int32) (c' : cT) : Prop := match c with
  | (v, n, ch, H, o, s, sf, z0, z1) => (∀ w t, w < 8 → t < 4 → x = nI w → y = nI t → k = 0 ∧ ans = vOw v w ∧ c' = ((upd (vOw v) w (nI t), vHd v, vSt v, vAd v, vGa v, vLe v, vCo v, vEp v, vAc v), n, ch, psH H o s v, psO o s, psS s, sf, z0, z1)) ∧ (¬ inI x 8 → k = 1 ∧ c' = (v, n, ch, H, o, s, sf, z0, z1)) ∧ (inI x 8 → ¬ inI y 4 → k = 1 ∧ c' = (v, n, ch, H, o, s, sf, z0, z1))
theorem e_giveWay {c : cT} (x y : Int32) (h : inv c) : ∃ k ans c', r_giveWay c x y k ans c' ∧ inv c' ∧ k ≤ 2 := by
  obtain ⟨v, n, ch, H, o, s, sf, z0, z1⟩ := c
  obtain ⟨ho, hs, hn, hch, hk, hkH, hk0, hk1⟩ := id h
  by_cases q0 : inI x 8
  · obtain ⟨w, hw, rfl⟩ := q0
    by_cases q1 : inI y 4
    · obtain ⟨t, ht, rfl⟩ := q1
      refine ⟨0, vOw v w, ((upd (vOw v) w (nI t), vHd v, vSt v, vAd v, vGa v, vLe v, vCo v, vEp v, vAc v), n, ch, psH H o s v, psO o s, psS s, sf, z0, z1), ⟨fun w' t' l0 l1 e0 e1 => ?_, fun q => absurd ⟨w, hw, rfl⟩ q, fun _ q => absurd ⟨t, ht, rfl⟩ q⟩, ⟨(ps_ok ho).1, (ps_ok ho).2, hn, hch, vK_gw hk ht, vK_psH hkH hk, hk0, hk1⟩, by decide⟩
      obtain rfl := nI_inj e0 (by omega) (by omega)
      obtain rfl := nI_inj e1 (by omega) (by omega)
      exact ⟨rfl, rfl, rfl⟩
    · exact ⟨1, nI 0, (v, n, ch, H, o, s, sf, z0, z1), ⟨fun w' t' l00 l10 e0 e1 => absurd ⟨t', l10, e1⟩ q1, fun q => absurd ⟨w, hw, rfl⟩ q, fun _ _ => ⟨rfl, rfl⟩⟩, h, by decide⟩
  · exact ⟨1, nI 0, (v, n, ch, H, o, s, sf, z0, z1), ⟨fun w' t' l00 l10 e0 e1 => absurd ⟨w', l00, e0⟩ q0, fun _ => ⟨rfl, rfl⟩, fun q _ => absurd q q0⟩, h, by decide⟩
def r_setLeast (c : cT) (x y : Int32) (k : Nat) (ans : Int32) (c' : cT) : Prop := match c with
  | (v, n, ch, H, o, s, sf, z0, z1) => (∀ t l, t < 4 → l ≤ 2 → x = nI t → y = nI l → k = 0 ∧ ans = vLe v t ∧ c' = ((vOw v, vHd v, vSt v, vAd v, vGa v, upd (vLe v) t (nI l), vCo v, vEp v, vAc v), n, ch, psH H o s v, psO o s, psS s, sf, z0, z1)) ∧ (¬ inI x 4 → k = 1 ∧ c' = (v, n, ch, H, o, s, sf, z0, z1)) ∧ (inI x 4 → ¬ inA y 0 2 → k = 2 ∧ c' = (v, n, ch, H, o, s, sf, z0, z1))
theorem e_setLeast {c : cT} (x y : Int32) (h : inv c) : ∃ k ans c', r_setLeast c x y k ans c' ∧ inv c' ∧ k ≤ 2 := by
  obtain ⟨v, n, ch, H, o, s, sf, z0, z1⟩ := c
  obtain ⟨ho, hs, hn, hch, hk, hkH, hk0, hk1⟩ := id h
  by_cases q0 : inI x 4
  · obtain ⟨t, ht, rfl⟩ := q0
    by_cases q1 : inA y 0 2
    · obtain ⟨l, hl0, hl, rfl⟩ := q1
      refine ⟨0, vLe v t, ((vOw v, vHd v, vSt v, vAd v, vGa v, upd (vLe v) t (nI l), vCo v, vEp v, vAc v), n, ch, psH H o s v, psO o s, psS s, sf, z0, z1), ⟨fun t' l' l0 l1 e0 e1 => ?_, fun q => absurd ⟨t, ht, rfl⟩ q, fun _ q => absurd ⟨l, hl0, hl, rfl⟩ q⟩, ⟨(ps_ok ho).1, (ps_ok ho).2, hn, hch, vK_sl hk hl, vK_psH hkH hk, hk0, hk1⟩, by decide⟩
      obtain rfl := nI_inj e0 (by omega) (by omega)
      obtain rfl := nI_inj e1 (by omega) (by omega)
      exact ⟨rfl, rfl, rfl⟩
    · exact ⟨2, nI 0, (v, n, ch, H, o, s, sf, z0, z1), ⟨fun t' l' l00 l10 e0 e1 => absurd ⟨l', Nat.zero_le _, l10, e1⟩ q1, fun q => absurd ⟨t, ht, rfl⟩ q, fun _ _ => ⟨rfl, rfl⟩⟩, h, by decide⟩
  · exact ⟨1, nI 0, (v, n, ch, H, o, s, sf, z0, z1), ⟨fun t' l' l00 l10 e0 e1 => absurd ⟨t', l00, e0⟩ q0, fun _ => ⟨rfl, rfl⟩, fun q _ => absurd q q0⟩, h, by decide⟩
def r_setEpoch (c : cT) (x : Int32) (k : Nat) (ans : Int32) (c' : cT) : Prop := match c with
  | (v, n, ch, H, o, s, sf, z0, z1) => (∀ e, e ≤ 200 → x = nI e → k = 0 ∧ ans = vEp v ∧ c' = ((vOw v, vHd v, vSt v, vAd v, vGa v, vLe v, vCo v, nI e, vAc v), n, ch, psH H o s v, psO o s, psS s, sf, z0, z1)) ∧ (¬ inA x 0 200 → k = 1 ∧ c' = (v, n, ch, H, o, s, sf, z0, z1))
theorem e_setEpoch {c : cT} (x : Int32) (h : inv c) : ∃ k ans c', r_setEpoch c x k ans c' ∧ inv c' ∧ k ≤ 2 := by
  obtain ⟨v, n, ch, H, o, s, sf, z0, z1⟩ := c
  obtain ⟨ho, hs, hn, hch, hk, hkH, hk0, hk1⟩ := id h
  by_cases q0 : inA x 0 200
  · obtain ⟨e, he0, he, rfl⟩ := q0
    refine ⟨0, vEp v, ((vOw v, vHd v, vSt v, vAd v, vGa v, vLe v, vCo v, nI e, vAc v), n, ch, psH H o s v, psO o s, psS s, sf, z0, z1), ⟨fun e' l0 e0 => ?_, fun q => absurd ⟨e, he0, he, rfl⟩ q⟩, ⟨(ps_ok ho).1, (ps_ok ho).2, hn, hch, vK_se hk he, vK_psH hkH hk, hk0, hk1⟩, by decide⟩
    obtain rfl := nI_inj e0 (by omega) (by omega)
    exact ⟨rfl, rfl, rfl⟩
  · exact ⟨1, nI 0, (v, n, ch, H, o, s, sf, z0, z1), ⟨fun e' l00 e0 => absurd ⟨e', Nat.zero_le _, l00, e0⟩ q0, fun _ => ⟨rfl, rfl⟩⟩, h, by decide⟩
def r_owner (c : cT) (x : Int32) (k : Nat) (ans : Int32) (c' : cT) : Prop := match c with
  | (v, n, ch, H, o, s, sf, z0, z1) => (∀ w, w < 8 → x = nI w → k = 0 ∧ ans = vOw v w ∧ c' = (v, n, ch, H, o, s, sf, z0, z1)) ∧ (¬ inI x 8 → k = 1 ∧ c' = (v, n, ch, H, o, s, sf, z0, z1))
theorem e_owner {c : cT} (x : Int32) (h : inv c) : ∃ k ans c', r_owner c x k ans c' ∧ inv c' ∧ k ≤ 2 := by
  obtain ⟨v, n, ch, H, o, s, sf, z0, z1⟩ := c
  obtain ⟨ho, hs, hn, hch, hk, hkH, hk0, hk1⟩ := id h
  by_cases q0 : inI x 8
  · obtain ⟨w, hw, rfl⟩ := q0
    refine ⟨0, vOw v w, (v, n, ch, H, o, s, sf, z0, z1), ⟨fun w' l0 e0 => ?_, fun q => absurd ⟨w, hw, rfl⟩ q⟩, h, by decide⟩
    obtain rfl := nI_inj e0 (by omega) (by omega)
    exact ⟨rfl, rfl, rfl⟩
  · exact ⟨1, nI 0, (v, n, ch, H, o, s, sf, z0, z1), ⟨fun w' l00 e0 => absurd ⟨w', l00, e0⟩ q0, fun _ => ⟨rfl, rfl⟩⟩, h, by decide⟩
def r_waysOf (c : cT) (x : Int32) (k : Nat) (ans : Int32) (c' : cT) : Prop := match c with
  | (v, n, ch, H, o, s, sf, z0, z1) => (∀ t, t < 4 → x = nI t → k = 0 ∧ ans = nI (fOwn (vOw v) (nI t)) ∧ c' = (v, n, ch, H, o, s, sf, z0, z1)) ∧ (¬ inI x 4 → k = 1 ∧ c' = (v, n, ch, H, o, s, sf, z0, z1))
theorem e_waysOf {c : cT} (x : Int32) (h : inv c) : ∃ k ans c', r_waysOf c x k ans c' ∧ inv c' ∧ k ≤ 2 := by
  obtain ⟨v, n, ch, H, o, s, sf, z0, z1⟩ := c
  obtain ⟨ho, hs, hn, hch, hk, hkH, hk0, hk1⟩ := id h
  by_cases q0 : inI x 4
  · obtain ⟨t, ht, rfl⟩ := q0
    refine ⟨0, nI (fOwn (vOw v) (nI t)), (v, n, ch, H, o, s, sf, z0, z1), ⟨fun t' l0 e0 => ?_, fun q => absurd ⟨t, ht, rfl⟩ q⟩, h, by decide⟩
    obtain rfl := nI_inj e0 (by omega) (by omega)
    exact ⟨rfl, rfl, rfl⟩
  · exact ⟨1, nI 0, (v, n, ch, H, o, s, sf, z0, z1), ⟨fun t' l00 e0 => absurd ⟨t', l00, e0⟩ q0, fun _ => ⟨rfl, rfl⟩⟩, h, by decide⟩
def r_line (c : cT) (x y : Int32) (k : Nat) (ans : Int32) (c' : cT) : Prop := match c with
  | (v, n, ch, H, o, s, sf, z0, z1) => (∀ t w, t < 4 → w < 8 → x = nI t → y = nI w → k = 0 ∧ ans = vHd v (t * 8 + w) ∧ c' = (v, n, ch, H, o, s, sf, z0, z1)) ∧ (¬ inI x 4 → k = 1 ∧ c' = (v, n, ch, H, o, s, sf, z0, z1)) ∧ (inI x 4 → ¬ inI y 8 → k = 1 ∧ c' = (v, n, ch, H, o, s, sf, z0, z1))
theorem e_line {c : cT} (x y : Int32) (h : inv c) : ∃ k ans c', r_line c x y k ans c' ∧ inv c' ∧ k ≤ 2 := by
  obtain ⟨v, n, ch, H, o, s, sf, z0, z1⟩ := c
  obtain ⟨ho, hs, hn, hch, hk, hkH, hk0, hk1⟩ := id h
  by_cases q0 : inI x 4
  · obtain ⟨t, ht, rfl⟩ := q0
    by_cases q1 : inI y 8
    · obtain ⟨w, hw, rfl⟩ := q1
      refine ⟨0, vHd v (t * 8 + w), (v, n, ch, H, o, s, sf, z0, z1), ⟨fun t' w' l0 l1 e0 e1 => ?_, fun q => absurd ⟨t, ht, rfl⟩ q, fun _ q => absurd ⟨w, hw, rfl⟩ q⟩, h, by decide⟩
      obtain rfl := nI_inj e0 (by omega) (by omega)
      obtain rfl := nI_inj e1 (by omega) (by omega)
      exact ⟨rfl, rfl, rfl⟩
    · exact ⟨1, nI 0, (v, n, ch, H, o, s, sf, z0, z1), ⟨fun t' w' l00 l10 e0 e1 => absurd ⟨w', l10, e1⟩ q1, fun q => absurd ⟨t, ht, rfl⟩ q, fun _ _ => ⟨rfl, rfl⟩⟩, h, by decide⟩
  · exact ⟨1, nI 0, (v, n, ch, H, o, s, sf, z0, z1), ⟨fun t' w' l00 l10 e0 e1 => absurd ⟨t', l00, e0⟩ q0, fun _ => ⟨rfl, rfl⟩, fun q _ => absurd q q0⟩, h, by decide⟩
def r_lines (c : cT) (x y : Int32) (k : Nat) (ans : Int32) (c' : cT) : Prop := match c with
  | (v, n, ch, H, o, s, sf, z0, z1) => (∀ t, t < 4 → x = nI t → k = 0 ∧ ans = liR v t y ∧ c' = (v, n, ch, H, o, s, sf, z0, z1)) ∧ (¬ inI x 4 → k = 1 ∧ c' = (v, n, ch, H, o, s, sf, z0, z1))
theorem e_lines {c : cT} (x y : Int32) (h : inv c) : ∃ k ans c', r_lines c x y k ans c' ∧ inv c' ∧ k ≤ 2 := by
  obtain ⟨v, n, ch, H, o, s, sf, z0, z1⟩ := c
  obtain ⟨ho, hs, hn, hch, hk, hkH, hk0, hk1⟩ := id h
  by_cases q0 : inI x 4
  · obtain ⟨t, ht, rfl⟩ := q0
    refine ⟨0, liR v t y, (v, n, ch, H, o, s, sf, z0, z1), ⟨fun t' l0 e0 => ?_, fun q => absurd ⟨t, ht, rfl⟩ q⟩, h, by decide⟩
    obtain rfl := nI_inj e0 (by omega) (by omega)
    exact ⟨rfl, rfl, rfl⟩
  · exact ⟨1, nI 0, (v, n, ch, H, o, s, sf, z0, z1), ⟨fun t' l00 e0 => absurd ⟨t', l00, e0⟩ q0, fun _ => ⟨rfl, rfl⟩⟩, h, by decide⟩
def r_ifAccessed (c : cT) (x y : Int32) (k : Nat) (ans : Int32) (c' : cT) : Prop := match c with
  | (v, n, ch, H, o, s, sf, z0, z1) => (∀ t a, t < 4 → a ≤ 255 → x = nI t → y = nI a → k = 0 ∧ ans = nI (acR v t a) ∧ c' = (v, n, ch, H, o, s, sf, z0, z1)) ∧ (¬ inI x 4 → k = 1 ∧ c' = (v, n, ch, H, o, s, sf, z0, z1)) ∧ (inI x 4 → ¬ inA y 0 255 → k = 2 ∧ c' = (v, n, ch, H, o, s, sf, z0, z1))
theorem e_ifAccessed {c : cT} (x y : Int32) (h : inv c) : ∃ k ans c', r_ifAccessed c x y k ans c' ∧ inv c' ∧ k ≤ 2 := by
  obtain ⟨v, n, ch, H, o, s, sf, z0, z1⟩ := c
  obtain ⟨ho, hs, hn, hch, hk, hkH, hk0, hk1⟩ := id h
  by_cases q0 : inI x 4
  · obtain ⟨t, ht, rfl⟩ := q0
    by_cases q1 : inA y 0 255
    · obtain ⟨a, ha0, ha, rfl⟩ := q1
      refine ⟨0, nI (acR v t a), (v, n, ch, H, o, s, sf, z0, z1), ⟨fun t' a' l0 l1 e0 e1 => ?_, fun q => absurd ⟨t, ht, rfl⟩ q, fun _ q => absurd ⟨a, ha0, ha, rfl⟩ q⟩, h, by decide⟩
      obtain rfl := nI_inj e0 (by omega) (by omega)
      obtain rfl := nI_inj e1 (by omega) (by omega)
      exact ⟨rfl, rfl, rfl⟩
    · exact ⟨2, nI 0, (v, n, ch, H, o, s, sf, z0, z1), ⟨fun t' a' l00 l10 e0 e1 => absurd ⟨a', Nat.zero_le _, l10, e1⟩ q1, fun q => absurd ⟨t, ht, rfl⟩ q, fun _ _ => ⟨rfl, rfl⟩⟩, h, by decide⟩
  · exact ⟨1, nI 0, (v, n, ch, H, o, s, sf, z0, z1), ⟨fun t' a' l00 l10 e0 e1 => absurd ⟨t', l00, e0⟩ q0, fun _ => ⟨rfl, rfl⟩, fun q _ => absurd q q0⟩, h, by decide⟩
def r_victim (c : cT) (x y : Int32) (k : Nat) (ans : Int32) (c' : cT) : Prop := match c with
  | (v, n, ch, H, o, s, sf, z0, z1) => (∀ t a, t < 4 → a ≤ 255 → x = nI t → y = nI a → k = 0 ∧ ans = vcR v t a ∧ c' = (v, n, ch, H, o, s, sf, z0, z1)) ∧ (¬ inI x 4 → k = 1 ∧ c' = (v, n, ch, H, o, s, sf, z0, z1)) ∧ (inI x 4 → ¬ inA y 0 255 → k = 2 ∧ c' = (v, n, ch, H, o, s, sf, z0, z1))
theorem e_victim {c : cT} (x y : Int32) (h : inv c) : ∃ k ans c', r_victim c x y k ans c' ∧ inv c' ∧ k ≤ 2 := by
  obtain ⟨v, n, ch, H, o, s, sf, z0, z1⟩ := c
  obtain ⟨ho, hs, hn, hch, hk, hkH, hk0, hk1⟩ := id h
  by_cases q0 : inI x 4
  · obtain ⟨t, ht, rfl⟩ := q0
    by_cases q1 : inA y 0 255
    · obtain ⟨a, ha0, ha, rfl⟩ := q1
      refine ⟨0, vcR v t a, (v, n, ch, H, o, s, sf, z0, z1), ⟨fun t' a' l0 l1 e0 e1 => ?_, fun q => absurd ⟨t, ht, rfl⟩ q, fun _ q => absurd ⟨a, ha0, ha, rfl⟩ q⟩, h, by decide⟩
      obtain rfl := nI_inj e0 (by omega) (by omega)
      obtain rfl := nI_inj e1 (by omega) (by omega)
      exact ⟨rfl, rfl, rfl⟩
    · exact ⟨2, nI 0, (v, n, ch, H, o, s, sf, z0, z1), ⟨fun t' a' l00 l10 e0 e1 => absurd ⟨a', Nat.zero_le _, l10, e1⟩ q1, fun q => absurd ⟨t, ht, rfl⟩ q, fun _ _ => ⟨rfl, rfl⟩⟩, h, by decide⟩
  · exact ⟨1, nI 0, (v, n, ch, H, o, s, sf, z0, z1), ⟨fun t' a' l00 l10 e0 e1 => absurd ⟨t', l00, e0⟩ q0, fun _ => ⟨rfl, rfl⟩, fun q _ => absurd q q0⟩, h, by decide⟩
def r_gain (c : cT) (x y : Int32) (k : Nat) (ans : Int32) (c' : cT) : Prop := match c with
  | (v, n, ch, H, o, s, sf, z0, z1) => (∀ t w, t < 4 → w < 8 → x = nI t → y = nI w → k = 0 ∧ ans = vGa v (t * 8 + w) ∧ c' = (v, n, ch, H, o, s, sf, z0, z1)) ∧ (¬ inI x 4 → k = 1 ∧ c' = (v, n, ch, H, o, s, sf, z0, z1)) ∧ (inI x 4 → ¬ inI y 8 → k = 1 ∧ c' = (v, n, ch, H, o, s, sf, z0, z1))
theorem e_gain {c : cT} (x y : Int32) (h : inv c) : ∃ k ans c', r_gain c x y k ans c' ∧ inv c' ∧ k ≤ 2 := by
  obtain ⟨v, n, ch, H, o, s, sf, z0, z1⟩ := c
  obtain ⟨ho, hs, hn, hch, hk, hkH, hk0, hk1⟩ := id h
  by_cases q0 : inI x 4
  · obtain ⟨t, ht, rfl⟩ := q0
    by_cases q1 : inI y 8
    · obtain ⟨w, hw, rfl⟩ := q1
      refine ⟨0, vGa v (t * 8 + w), (v, n, ch, H, o, s, sf, z0, z1), ⟨fun t' w' l0 l1 e0 e1 => ?_, fun q => absurd ⟨t, ht, rfl⟩ q, fun _ q => absurd ⟨w, hw, rfl⟩ q⟩, h, by decide⟩
      obtain rfl := nI_inj e0 (by omega) (by omega)
      obtain rfl := nI_inj e1 (by omega) (by omega)
      exact ⟨rfl, rfl, rfl⟩
    · exact ⟨1, nI 0, (v, n, ch, H, o, s, sf, z0, z1), ⟨fun t' w' l00 l10 e0 e1 => absurd ⟨w', l10, e1⟩ q1, fun q => absurd ⟨t, ht, rfl⟩ q, fun _ _ => ⟨rfl, rfl⟩⟩, h, by decide⟩
  · exact ⟨1, nI 0, (v, n, ch, H, o, s, sf, z0, z1), ⟨fun t' w' l00 l10 e0 e1 => absurd ⟨t', l00, e0⟩ q0, fun _ => ⟨rfl, rfl⟩, fun q _ => absurd q q0⟩, h, by decide⟩
def r_utility (c : cT) (x y : Int32) (k : Nat) (ans : Int32) (c' : cT) : Prop := match c with
  | (v, n, ch, H, o, s, sf, z0, z1) => (∀ t w, t < 4 → w ≤ 8 → x = nI t → y = nI w → k = 0 ∧ ans = sumI (fun p => vGa v (t * 8 + p)) w ∧ c' = (v, n, ch, H, o, s, sf, z0, z1)) ∧ (¬ inI x 4 → k = 1 ∧ c' = (v, n, ch, H, o, s, sf, z0, z1)) ∧ (inI x 4 → ¬ inA y 0 8 → k = 2 ∧ c' = (v, n, ch, H, o, s, sf, z0, z1))
theorem e_utility {c : cT} (x y : Int32) (h : inv c) : ∃ k ans c', r_utility c x y k ans c' ∧ inv c' ∧ k ≤ 2 := by
  obtain ⟨v, n, ch, H, o, s, sf, z0, z1⟩ := c
  obtain ⟨ho, hs, hn, hch, hk, hkH, hk0, hk1⟩ := id h
  by_cases q0 : inI x 4
  · obtain ⟨t, ht, rfl⟩ := q0
    by_cases q1 : inA y 0 8
    · obtain ⟨w, hw0, hw, rfl⟩ := q1
      refine ⟨0, sumI (fun p => vGa v (t * 8 + p)) w, (v, n, ch, H, o, s, sf, z0, z1), ⟨fun t' w' l0 l1 e0 e1 => ?_, fun q => absurd ⟨t, ht, rfl⟩ q, fun _ q => absurd ⟨w, hw0, hw, rfl⟩ q⟩, h, by decide⟩
      obtain rfl := nI_inj e0 (by omega) (by omega)
      obtain rfl := nI_inj e1 (by omega) (by omega)
      exact ⟨rfl, rfl, rfl⟩
    · exact ⟨2, nI 0, (v, n, ch, H, o, s, sf, z0, z1), ⟨fun t' w' l00 l10 e0 e1 => absurd ⟨w', Nat.zero_le _, l10, e1⟩ q1, fun q => absurd ⟨t, ht, rfl⟩ q, fun _ _ => ⟨rfl, rfl⟩⟩, h, by decide⟩
  · exact ⟨1, nI 0, (v, n, ch, H, o, s, sf, z0, z1), ⟨fun t' w' l00 l10 e0 e1 => absurd ⟨t', l00, e0⟩ q0, fun _ => ⟨rfl, rfl⟩, fun q _ => absurd q q0⟩, h, by decide⟩
def r_target (c : cT) (x : Int32) (k : Nat) (ans : Int32) (c' : cT) : Prop := match c with
  | (v, n, ch, H, o, s, sf, z0, z1) => (∀ t, t < 4 → x = nI t → k = 0 ∧ ans = nI (tgt (lfv v) (vGa v) t) ∧ c' = (v, n, ch, H, o, s, sf, z0, z1)) ∧ (¬ inI x 4 → k = 1 ∧ c' = (v, n, ch, H, o, s, sf, z0, z1))
theorem e_target {c : cT} (x : Int32) (h : inv c) : ∃ k ans c', r_target c x k ans c' ∧ inv c' ∧ k ≤ 2 := by
  obtain ⟨v, n, ch, H, o, s, sf, z0, z1⟩ := c
  obtain ⟨ho, hs, hn, hch, hk, hkH, hk0, hk1⟩ := id h
  by_cases q0 : inI x 4
  · obtain ⟨t, ht, rfl⟩ := q0
    refine ⟨0, nI (tgt (lfv v) (vGa v) t), (v, n, ch, H, o, s, sf, z0, z1), ⟨fun t' l0 e0 => ?_, fun q => absurd ⟨t, ht, rfl⟩ q⟩, h, by decide⟩
    obtain rfl := nI_inj e0 (by omega) (by omega)
    exact ⟨rfl, rfl, rfl⟩
  · exact ⟨1, nI 0, (v, n, ch, H, o, s, sf, z0, z1), ⟨fun t' l00 e0 => absurd ⟨t', l00, e0⟩ q0, fun _ => ⟨rfl, rfl⟩⟩, h, by decide⟩
def r_count (c : cT) (x y : Int32) (k : Nat) (ans : Int32) (c' : cT) : Prop := match c with
  | (v, n, ch, H, o, s, sf, z0, z1) => (∀ t w, t < 4 → w ≤ 3 → x = nI t → y = nI w → k = 0 ∧ ans = vCo v (t * 4 + w) ∧ c' = (v, n, ch, H, o, s, sf, z0, z1)) ∧ (¬ inI x 4 → k = 1 ∧ c' = (v, n, ch, H, o, s, sf, z0, z1)) ∧ (inI x 4 → ¬ inA y 0 3 → k = 2 ∧ c' = (v, n, ch, H, o, s, sf, z0, z1))
theorem e_count {c : cT} (x y : Int32) (h : inv c) : ∃ k ans c', r_count c x y k ans c' ∧ inv c' ∧ k ≤ 2 := by
  obtain ⟨v, n, ch, H, o, s, sf, z0, z1⟩ := c
  obtain ⟨ho, hs, hn, hch, hk, hkH, hk0, hk1⟩ := id h
  by_cases q0 : inI x 4
  · obtain ⟨t, ht, rfl⟩ := q0
    by_cases q1 : inA y 0 3
    · obtain ⟨w, hw0, hw, rfl⟩ := q1
      refine ⟨0, vCo v (t * 4 + w), (v, n, ch, H, o, s, sf, z0, z1), ⟨fun t' w' l0 l1 e0 e1 => ?_, fun q => absurd ⟨t, ht, rfl⟩ q, fun _ q => absurd ⟨w, hw0, hw, rfl⟩ q⟩, h, by decide⟩
      obtain rfl := nI_inj e0 (by omega) (by omega)
      obtain rfl := nI_inj e1 (by omega) (by omega)
      exact ⟨rfl, rfl, rfl⟩
    · exact ⟨2, nI 0, (v, n, ch, H, o, s, sf, z0, z1), ⟨fun t' w' l00 l10 e0 e1 => absurd ⟨w', Nat.zero_le _, l10, e1⟩ q1, fun q => absurd ⟨t, ht, rfl⟩ q, fun _ _ => ⟨rfl, rfl⟩⟩, h, by decide⟩
  · exact ⟨1, nI 0, (v, n, ch, H, o, s, sf, z0, z1), ⟨fun t' w' l00 l10 e0 e1 => absurd ⟨t', l00, e0⟩ q0, fun _ => ⟨rfl, rfl⟩, fun q _ => absurd q q0⟩, h, by decide⟩
def r_monitored (c : cT) (x y z : Int32) (k : Nat) (ans : Int32) (c' : cT) : Prop := match c with
  | (v, n, ch, H, o, s, sf, z0, z1) => (∀ t q w, t < 4 → (q = 0 ∨ q = 2) → w < 8 → x = nI t → y = nI q → z = nI w → k = 0 ∧ ans = vAd v ((t * 2 + q / 2) * 8 + w) ∧ c' = (v, n, ch, H, o, s, sf, z0, z1)) ∧ (¬ inI x 4 → k = 1 ∧ c' = (v, n, ch, H, o, s, sf, z0, z1)) ∧ (inI x 4 → ¬ (y = nI 0 ∨ y = nI 2) → k = 1 ∧ c' = (v, n, ch, H, o, s, sf, z0, z1)) ∧ (inI x 4 → (y = nI 0 ∨ y = nI 2) → ¬ inI z 8 → k = 1 ∧ c' = (v, n, ch, H, o, s, sf, z0, z1))
theorem e_monitored {c : cT} (x y z : Int32) (h : inv c) : ∃ k ans c', r_monitored c x y z k ans c' ∧ inv c' ∧ k ≤ 2 := by
  obtain ⟨v, n, ch, H, o, s, sf, z0, z1⟩ := c
  by_cases q0 : inI x 4
  · by_cases q1 : y = nI 0 ∨ y = nI 2
    · by_cases q2 : inI z 8
      · obtain ⟨t, ht, rfl⟩ := q0
        obtain ⟨w, hw, rfl⟩ := q2
        obtain ⟨q, hq, rfl⟩ : ∃ q, (q = 0 ∨ q = 2) ∧ y = nI q := by
          rcases q1 with q1 | q1
          · exact ⟨0, Or.inl rfl, q1⟩
          · exact ⟨2, Or.inr rfl, q1⟩
        refine ⟨0, vAd v ((t * 2 + q / 2) * 8 + w), (v, n, ch, H, o, s, sf, z0, z1), ⟨fun t' q' w' l0 l1 l2 e0 e1 e2 => ?_, fun z => absurd ⟨t, ht, rfl⟩ z, fun _ z => absurd q1 z, fun _ _ z => absurd ⟨w, hw, rfl⟩ z⟩, h, by decide⟩
        obtain rfl := nI_inj e0 (by omega) (by omega)
        obtain rfl := nI_inj e1 (by omega) (by omega)
        obtain rfl := nI_inj e2 (by omega) (by omega)
        exact ⟨rfl, rfl, rfl⟩
      · exact ⟨1, nI 0, (v, n, ch, H, o, s, sf, z0, z1), ⟨fun t' q' w' l0 l1 l2 e0 e1 e2 => absurd ⟨w', l2, e2⟩ q2, fun z => absurd q0 z, fun _ z => absurd q1 z, fun _ _ _ => ⟨rfl, rfl⟩⟩, h, by decide⟩
    · exact ⟨1, nI 0, (v, n, ch, H, o, s, sf, z0, z1), ⟨fun t' q' w' l0 l1 l2 e0 e1 e2 => absurd (l1.elim (fun z => Or.inl (by rw [e1, z])) (fun z => Or.inr (by rw [e1, z]))) q1, fun z => absurd q0 z, fun _ _ => ⟨rfl, rfl⟩, fun _ z _ => absurd z q1⟩, h, by decide⟩
  · exact ⟨1, nI 0, (v, n, ch, H, o, s, sf, z0, z1), ⟨fun t' q' w' l0 l1 l2 e0 e1 e2 => absurd ⟨t', l0, e0⟩ q0, fun _ => ⟨rfl, rfl⟩, fun z _ => absurd z q0, fun z _ _ => absurd z q0⟩, h, by decide⟩
def r_appendText (c : cT) (x : Int32) (k : Nat) (ans : Int32) (c' : cT) : Prop := match c with
  | (v, n, ch, H, o, s, sf, z0, z1) => (∀ a, 32 ≤ a → a ≤ 126 → n < 80 → x = nI a → k = 0 ∧ ans = nI (n + 1) ∧ c' = (v, n + 1, chU ch n a, H, o, s, sf, z0, z1)) ∧ (¬ inA x 32 126 → k = 1 ∧ c' = (v, n, ch, H, o, s, sf, z0, z1)) ∧ (inA x 32 126 → ¬ n < 80 → k = 2 ∧ c' = (v, n, ch, H, o, s, sf, z0, z1))
theorem e_appendText {c : cT} (x : Int32) (h : inv c) : ∃ k ans c', r_appendText c x k ans c' ∧ inv c' ∧ k ≤ 2 := by
  obtain ⟨v, n, ch, H, o, s, sf, z0, z1⟩ := c
  obtain ⟨ho, hs, hn, hch, hk, hkH, hk0, hk1⟩ := id h
  by_cases q0 : inA x 32 126
  · by_cases q1 : n < 80
    · obtain ⟨a, ha0, ha, rfl⟩ := q0
      refine ⟨0, nI (n + 1), (v, n + 1, chU ch n a, H, o, s, sf, z0, z1), ⟨fun a' l0 l1 l2 e0 => ?_, fun z => absurd ⟨a, ha0, ha, rfl⟩ z, fun _ z => absurd q1 z⟩, ⟨ho, hs, q1, fun j => ?_, hk, hkH, hk0, hk1⟩, by decide⟩
      · obtain rfl := nI_inj e0 (by omega) (by omega)
        exact ⟨rfl, rfl, rfl⟩
      · unfold chU
        split
        · omega
        · exact hch j
    · exact ⟨2, nI 0, (v, n, ch, H, o, s, sf, z0, z1), ⟨fun a' l0 l1 l2 e0 => absurd l2 q1, fun z => absurd q0 z, fun _ _ => ⟨rfl, rfl⟩⟩, h, by decide⟩
  · exact ⟨1, nI 0, (v, n, ch, H, o, s, sf, z0, z1), ⟨fun a' l0 l1 l2 e0 => absurd ⟨a', l0, l1, e0⟩ q0, fun _ => ⟨rfl, rfl⟩, fun z _ => absurd z q0⟩, h, by decide⟩
def r_runText (c : cT) (k : Nat) (ans : Int32) (c' : cT) : Prop := match c with
  | (v, n, ch, H, o, s, sf, z0, z1) => (fErr ch n = none → k = 0 ∧ ans = nI (rtH (lfv v) n ch v n) ∧ c' = (rtS (lfv v) n ch v n, n, ch, psH H o s v, psO o s, psS s, sf, z0, z1)) ∧ (¬ fErr ch n = none → k = 1 ∧ c' = (v, n, ch, H, o, s, sf, z0, z1))
theorem e_runText {c : cT} (h : inv c) : ∃ k ans c', r_runText c k ans c' ∧ inv c' ∧ k ≤ 2 := by
  obtain ⟨v, n, ch, H, o, s, sf, z0, z1⟩ := c
  obtain ⟨ho, hs, hn, hch, hk, hkH, hk0, hk1⟩ := id h
  by_cases q0 : fErr ch n = none
  · exact ⟨0, nI (rtH (lfv v) n ch v n), (rtS (lfv v) n ch v n, n, ch, psH H o s v, psO o s, psS s, sf, z0, z1), ⟨fun _ => ⟨rfl, rfl, rfl⟩, fun z => absurd q0 z⟩, ⟨(ps_ok ho).1, (ps_ok ho).2, hn, hch, vK_rt hk _ (fErr_rc q0) n (Nat.le_refl _), vK_psH hkH hk, hk0, hk1⟩, by decide⟩
  · exact ⟨1, nI 0, (v, n, ch, H, o, s, sf, z0, z1), ⟨fun z => absurd z q0, fun _ => ⟨rfl, rfl⟩⟩, h, by decide⟩
def r_undo (c : cT) (k : Nat) (ans : Int32) (c' : cT) : Prop := match c with
  | (v, n, ch, H, o, s, sf, z0, z1) => (∀ s', s = s' + 1 → k = 0 ∧ ans = nI s' ∧ c' = (H ((o + s') % 6), n, ch, H, o, s', sf, z0, z1)) ∧ (s = 0 → k = 1 ∧ c' = (v, n, ch, H, o, s, sf, z0, z1))
theorem e_undo {c : cT} (h : inv c) : ∃ k ans c', r_undo c k ans c' ∧ inv c' ∧ k ≤ 2 := by
  obtain ⟨v, n, ch, H, o, s, sf, z0, z1⟩ := c
  obtain ⟨ho, hs, hn, hch, hk, hkH, hk0, hk1⟩ := id h
  cases s with
  | zero => exact ⟨1, nI 0, (v, n, ch, H, o, 0, sf, z0, z1), ⟨fun s' z => absurd z (by omega), fun _ => ⟨rfl, rfl⟩⟩, h, by decide⟩
  | succ s =>
    refine ⟨0, nI s, (H ((o + s) % 6), n, ch, H, o, s, sf, z0, z1), ⟨fun s' z => ?_, fun z => absurd z (by omega)⟩, ⟨ho, by omega, hn, hch, hkH ((o + s) % 6), hkH, hk0, hk1⟩, by decide⟩
    obtain rfl : s = s' := by omega
    exact ⟨rfl, rfl, rfl⟩
def r_save (c : cT) (x : Int32) (k : Nat) (ans : Int32) (c' : cT) : Prop := match c with
  | (v, n, ch, H, o, s, sf, z0, z1) => (∀ q, q < 2 → x = nI q → k = 0 ∧ ans = nI (allN (vHd v)) ∧ c' = (v, n, ch, H, o, s, upd sf q (nI 1), svZ q 0 v z0, svZ q 1 v z1)) ∧ (¬ inI x 2 → k = 1 ∧ c' = (v, n, ch, H, o, s, sf, z0, z1))
theorem e_save {c : cT} (x : Int32) (h : inv c) : ∃ k ans c', r_save c x k ans c' ∧ inv c' ∧ k ≤ 2 := by
  obtain ⟨v, n, ch, H, o, s, sf, z0, z1⟩ := c
  obtain ⟨ho, hs, hn, hch, hk, hkH, hk0, hk1⟩ := id h
  by_cases q0 : inI x 2
  · obtain ⟨q, hq, rfl⟩ := q0
    refine ⟨0, nI (allN (vHd v)), (v, n, ch, H, o, s, upd sf q (nI 1), svZ q 0 v z0, svZ q 1 v z1), ⟨fun q' l0 e0 => ?_, fun z => absurd ⟨q, hq, rfl⟩ z⟩, ⟨ho, hs, hn, hch, hk, hkH, vK_sv (q := q) hk hk0, vK_sv (q := q) hk hk1⟩, by decide⟩
    obtain rfl := nI_inj e0 (by omega) (by omega)
    exact ⟨rfl, rfl, rfl⟩
  · exact ⟨1, nI 0, (v, n, ch, H, o, s, sf, z0, z1), ⟨fun q' l0 e0 => absurd ⟨q', l0, e0⟩ q0, fun _ => ⟨rfl, rfl⟩⟩, h, by decide⟩
def r_restore (c : cT) (x : Int32) (k : Nat) (ans : Int32) (c' : cT) : Prop := match c with
  | (v, n, ch, H, o, s, sf, z0, z1) => (∀ q, q < 2 → x = nI q → ¬ sf q = 0 → k = 0 ∧ ans = nI (allN (vHd (svZ q 0 z0 z1))) ∧ c' = (svZ q 0 z0 z1, n, ch, psH H o s v, psO o s, psS s, sf, z0, z1)) ∧ (¬ inI x 2 → k = 1 ∧ c' = (v, n, ch, H, o, s, sf, z0, z1)) ∧ (∀ q, q < 2 → x = nI q → sf q = 0 → k = 2 ∧ c' = (v, n, ch, H, o, s, sf, z0, z1))
theorem e_restore {c : cT} (x : Int32) (h : inv c) : ∃ k ans c', r_restore c x k ans c' ∧ inv c' ∧ k ≤ 2 := by
  obtain ⟨v, n, ch, H, o, s, sf, z0, z1⟩ := c
  obtain ⟨ho, hs, hn, hch, hk, hkH, hk0, hk1⟩ := id h
  by_cases q0 : inI x 2
  · obtain ⟨q, hq, rfl⟩ := q0
    by_cases q1 : sf q = 0
    · refine ⟨2, nI 0, (v, n, ch, H, o, s, sf, z0, z1), ⟨fun q' l0 e0 z => ?_, fun z => absurd ⟨q, hq, rfl⟩ z, fun _ _ _ _ => ⟨rfl, rfl⟩⟩, h, by decide⟩
      obtain rfl := nI_inj e0 (by omega) (by omega)
      exact absurd q1 z
    · refine ⟨0, nI (allN (vHd (svZ q 0 z0 z1))), (svZ q 0 z0 z1, n, ch, psH H o s v, psO o s, psS s, sf, z0, z1), ⟨fun q' l0 e0 z => ?_, fun z => absurd ⟨q, hq, rfl⟩ z, fun q' l0 e0 z => ?_⟩, ⟨(ps_ok ho).1, (ps_ok ho).2, hn, hch, vK_sv (q := q) (i := 0) hk0 hk1, vK_psH hkH hk, hk0, hk1⟩, by decide⟩
      · obtain rfl := nI_inj e0 (by omega) (by omega)
        exact ⟨rfl, rfl, rfl⟩
      · obtain rfl := nI_inj e0 (by omega) (by omega)
        exact absurd z q1
  · exact ⟨1, nI 0, (v, n, ch, H, o, s, sf, z0, z1), ⟨fun q' l0 e0 => absurd ⟨q', l0, e0⟩ q0, fun _ => ⟨rfl, rfl⟩, fun q' l0 e0 => absurd ⟨q', l0, e0⟩ q0⟩, h, by decide⟩
/-- hitRate answers a double; 0 with an exception -/
def r_hitRate (c : cT) (x : Int32) (k : Nat) (ans : UInt64) (c' : cT) : Prop := match c with
  | (v, n, ch, H, o, s, sf, z0, z1) => (∀ t, t < 4 → x = nI t → k = 0 ∧ ans = hrR v t ∧ c' = (v, n, ch, H, o, s, sf, z0, z1)) ∧ (¬ inI x 4 → k = 1 ∧ c' = (v, n, ch, H, o, s, sf, z0, z1))
theorem e_hitRate {c : cT} (x : Int32) (h : inv c) : ∃ k ans c', r_hitRate c x k ans c' ∧ inv c' ∧ k ≤ 2 := by
  obtain ⟨v, n, ch, H, o, s, sf, z0, z1⟩ := c
  by_cases q0 : inI x 4
  · obtain ⟨q, hq, rfl⟩ := q0
    refine ⟨0, hrR v q, (v, n, ch, H, o, s, sf, z0, z1), ⟨fun q' l0 e0 => ?_, fun z => absurd ⟨q, hq, rfl⟩ z⟩, h, by decide⟩
    obtain rfl := nI_inj e0 (by omega) (by omega)
    exact ⟨rfl, rfl, rfl⟩
  · exact ⟨1, 0, (v, n, ch, H, o, s, sf, z0, z1), ⟨fun q' l0 e0 => absurd ⟨q', l0, e0⟩ q0, fun _ => ⟨rfl, rfl⟩⟩, h, by decide⟩
-- methods that throw nothing: the new state
def m_moveWay (c : cT) : cT := match c with
  | (v, n, ch, H, o, s, sf, z0, z1) => (mvV (lfv v) v, n, ch, psH H o s v, psO o s, psS s, sf, z0, z1)
def m_halveGains (c : cT) : cT := match c with
  | (v, n, ch, H, o, s, sf, z0, z1) => (hlV v, n, ch, psH H o s v, psO o s, psS s, sf, z0, z1)
def m_clearText (c : cT) : cT := match c with
  | (v, _, ch, H, o, s, sf, z0, z1) => (v, 0, ch, H, o, s, sf, z0, z1)
theorem i_moveWay {c : cT} (h : inv c) : inv (m_moveWay c) := by
  obtain ⟨v, n, ch, H, o, s, sf, z0, z1⟩ := c
  obtain ⟨ho, hs, hn, hch, hk, hkH, hk0, hk1⟩ := h
  exact ⟨(ps_ok ho).1, (ps_ok ho).2, hn, hch, vK_mv hk _, vK_psH hkH hk, hk0, hk1⟩
theorem i_halveGains {c : cT} (h : inv c) : inv (m_halveGains c) := by
  obtain ⟨v, n, ch, H, o, s, sf, z0, z1⟩ := c
  obtain ⟨ho, hs, hn, hch, hk, hkH, hk0, hk1⟩ := h
  exact ⟨(ps_ok ho).1, (ps_ok ho).2, hn, hch, vK_of hk rfl rfl rfl rfl, vK_psH hkH hk, hk0, hk1⟩
theorem i_clearText {c : cT} (h : inv c) : inv (m_clearText c) := by
  obtain ⟨v, n, ch, H, o, s, sf, z0, z1⟩ := c
  obtain ⟨ho, hs, hn, hch, hk, hkH, hk0, hk1⟩ := h
  exact ⟨ho, hs, Nat.zero_le _, hch, hk, hkH, hk0, hk1⟩
def a_moveWay (c : cT) : Int32 := match c with
  | (v, _, _, _, _, _, _, _, _) => oI (mvW (lfv v) v)
def a_halveGains (c : cT) : Int32 := match c with
  | (v, _, _, _, _, _, _, _, _) => sumI (hlv (vGa v)) 32
def a_clearText (c : cT) : Int32 := match c with
  | (_, n, _, _, _, _, _, _, _) => nI n
def a_errorPosition (c : cT) : Int32 := match c with
  | (_, n, ch, _, _, _, _, _, _) => oI (fErr ch n)
def a_movesLeft (c : cT) : Int32 := match c with
  | (v, _, _, _, _, _, _, _, _) => sumI (mxD (lfv v) v) 4
def a_totalUtility (c : cT) : Int32 := match c with
  | (v, _, _, _, _, _, _, _, _) => sumI (tuD v) 4
def a_accesses (c : cT) : Int32 := match c with
  | (v, _, _, _, _, _, _, _, _) => vAc v
def a_savedStates (c : cT) : Int32 := match c with
  | (_, _, _, _, _, s, _, _, _) => nI s
def a_textLength (c : cT) : Int32 := match c with
  | (_, n, _, _, _, _, _, _, _) => nI n
end MR4
