/-! The law's helpers. -/
section LH
theorem wX_l2 {v v' : gV} {wy wy' : Nat → Int32} {n n' : Nat} {ch ch' : Nat → Nat} {H H' : Nat → gV} {o s o' s' : Nat} {sf sf' : Nat → Int32} {z0 z1 z0' z1' : gV} : (wX v wy n ch H o s (slX sf z0 z1)).length = (wX v' wy' n' ch' H' o' s' (slX sf' z0' z1')).length := rfl
def lwA (c : cT) (wy : Nat → Int32) : List gE := match c with
  | (v, n, ch, H, o, s, sf, z0, z1) => wX v wy n ch H o s (slX sf z0 z1)
/-- the law's world: the cache, the two rows of one number, the rest -/
def lwE (c : cT) (wy : Nat → Int32) (f : Nat → Int64) (g : Nat → UInt64) (M : List gE) : List gE := lwA c wy ++ (.inl (3, 1, .inr (.inl f)) :: .inl (4, 1, .inr (.inr (.inl g))) :: M)
abbrev lwO (E : List gE) (f : Nat → Int64) : List gE := E ++ [.inl (3, 1, .inr (.inl f))]
def sL_access : gS := fun av es K => ∃ c wy f g x y k ans c', av = [.ref 0, .int x, .int y, .ref 99] ∧ inv c ∧ r_access c x y k ans c' ∧ es = lwE c wy f g [] ∧ ∀ wy' f', (k = 0 → f' 0 = ans.toInt64) → K (some (.int (nI k))) (lwE c' wy' f' g [])
def rmL_access : Room := { frames := 9, cells := 2, slots := 12, locals := 153 }
def pL_access (K : gK) : List (Nat × gO) := [(0, oALoad 3), (1, oConst (nI 0)), (2, oALoad 0), (3, oILoad 1), (4, oILoad 2), (5, oCatch 2 12 2 12 6 2 [("java/lang/IndexOutOfBoundsException", 15, 4), ("java/lang/IllegalArgumentException", 19, 4)] sX6_access), (8, oI2L), (9, oOutL 99), (10, oGoto 21), (13, oAStore 5 4), (15, oConst (nI 1)), (16, oRet K 2 12), (17, oAStore 5 4), (19, oConst (nI 2)), (20, oRet K 2 12), (21, oConst (nI 0)), (22, oRet K 2 12)]
set_option maxRecDepth 100000 in
theorem kL_access {X : gX} {l : Launch} (hl : l.stackTraces = false) (hM : gM X l cL_access RL wsL_access rmL_access) {K : gK} (hE : gR X K 2 12 (some .int)) (hT : gTb X [(0, 10, 13, 13), (0, 10, 17, 15)]) (hC9 : gXc X) (hnL : X.2.2.2.2.2.2.2.2.2.2.2.2.2.2.2.2 = 5) : okL X (pL_access K) := by
  obtain ⟨p, l1, e, R, s, m, args, below, meth, c, D, cA, A, ag, ad0, Q, nL⟩ := X
  cases hnL
  refine ⟨ok_aload_n hM 3 dL_access_0 rfl,
    ok_iconst hM dL_access_1 rfl,
    ok_aload_n hM 0 dL_access_2 rfl,
    ok_iload_n hM 1 dL_access_3 rfl,
    ok_iload_n hM 2 dL_access_4 rfl,
    ok_catch hM hT hC9 [("java/lang/IndexOutOfBoundsException", 15, 4), ("java/lang/IllegalArgumentException", 19, 4)] (List.forall_mem_cons.mpr ⟨⟨[], ⟨0, 10, 13, 13⟩, [⟨0, 10, 17, 15⟩], rfl, fun z hz => absurd hz List.not_mem_nil, rfl, by decide, (List.mem_of_getElem? (i := 1) rfl), List.mem_of_getElem? (i := 0) rfl, Nat.le_of_ble_eq_true rfl, Or.inl ⟨dL_access_13, rfl⟩⟩, List.forall_mem_cons.mpr ⟨⟨[⟨0, 10, 13, 13⟩], ⟨0, 10, 17, 15⟩, [], rfl, fun z hz => by
        rw [List.mem_singleton] at hz
        subst hz
        exact Or.inr ⟨by decide, "java/lang/IndexOutOfBoundsException", (List.mem_of_getElem? (i := 1) rfl), List.mem_of_getElem? (i := 0) rfl⟩, rfl, by decide, (List.mem_of_getElem? (i := 2) rfl), List.mem_of_getElem? (i := 1) rfl, Nat.le_of_ble_eq_true rfl, Or.inl ⟨dL_access_17, rfl⟩⟩, fun _ h => absurd h List.not_mem_nil⟩⟩) (ctX6_access l hl) rfl gL_access_X6_access rfl rfl rfl (by decide +kernel) (by decide) dL_access_5,
    ok_i2l hM dL_access_8,
    ok_outL 99 (ok_last hM dL_access_9),
    ok_goto hM 21 dL_access_10 (by decide),
    ok_astore hM 4 dL_access_13,
    ok_iconst hM dL_access_15 rfl,
    ok_ret hM hE dL_access_16,
    ok_astore hM 4 dL_access_17,
    ok_iconst hM dL_access_19 rfl,
    ok_ret hM hE dL_access_20,
    ok_iconst hM dL_access_21 rfl,
    ok_ret hM hE dL_access_22,
    trivial⟩
set_option maxRecDepth 100000 in
theorem ctL_access (l : Launch) (hl : l.stackTraces = false) : CtL l yL_access wsL_access rmL_access 2 12 sL_access := by
  refine ctL_of (own := RL) (cc := cL_access) (maxL := 5) (ret := (some .int)) (hh := [(0, 10, 13, 13), (0, 10, 17, 15)]) (by decide) rfl rfl (by rintro _ _ _ ⟨c, wy, f, g, x, y, k, ans, c', rfl, hinv, hr, rfl, hK⟩; exact Nat.le_of_ble_eq_true rfl) ?_
  intro X av es K hM hE hT hC9 hnL hsp
  obtain ⟨c, wy, f, g, x, y, k, ans, c', rfl, hinv, hr, rfl, hK⟩ := hsp
  have hf := kL_access hl hM hE hT hC9 hnL
  obtain ⟨v, n, ch, H, o, s, sf, z0, z1⟩ := c
  obtain ⟨ho, hs, hn, hch, hk, hkH, hk0, hk1⟩ := hinv
  refine wr_ok hf cut_nil 9 0 _ _ _ _ _ ?_
  refine ⟨wX v wy n ch H o s (slX sf z0 z1), _, rfl, Nat.le_of_ble_eq_true rfl, ?_⟩
  refine ⟨x, y, v, wy, n, ch, H, o, s, slX sf z0 z1, lfv v, rfl, ho, hs, lfv_ok hk, rfl, fun t a ht ha e0 e1 wy' => ?_, fun q => ?_, fun p0 q => ?_⟩
  · refine ⟨wX_l2, ?_⟩
    obtain ⟨rfl, ea, rfl⟩ := hr.1 t a ht ha e0 e1
    refine ⟨rfl, _, _, f, rfl, rfl, ?_⟩
    exact hK wy' _ (fun _ => by rw [ea]; exact pk_uLs)
  · refine ⟨wX_l2, 0, _, _, rfl, ?_⟩
    obtain ⟨rfl, rfl⟩ := hr.2.1  q
    exact hK wy f (fun h => absurd h (by decide))
  · refine ⟨wX_l2, 1, _, _, rfl, ?_⟩
    obtain ⟨rfl, rfl⟩ := hr.2.2 p0 q
    exact hK wy f (fun h => absurd h (by decide))
def sL_stream : gS := fun av es K => ∃ c wy f g x y z u k ans c', av = [.ref 0, .int x, .int y, .int z, .int u, .ref 99] ∧ inv c ∧ r_stream c x y z u k ans c' ∧ es = lwE c wy f g [] ∧ ∀ wy' f', (k = 0 → f' 0 = ans.toInt64) → K (some (.int (nI k))) (lwE c' wy' f' g [])
def rmL_stream : Room := { frames := 9, cells := 4, slots := 24, locals := 157 }
def pL_stream (K : gK) : List (Nat × gO) := [(0, oALoad 5), (2, oConst (nI 0)), (3, oALoad 0), (4, oILoad 1), (5, oILoad 2), (6, oILoad 3), (7, oILoad 4), (9, oCatch 4 24 4 24 6 4 [("java/lang/IndexOutOfBoundsException", 19, 6), ("java/lang/IllegalArgumentException", 23, 6)] sX6_stream), (12, oI2L), (13, oOutL 99), (14, oGoto 25), (17, oAStore 7 6), (19, oConst (nI 1)), (20, oRet K 4 24), (21, oAStore 7 6), (23, oConst (nI 2)), (24, oRet K 4 24), (25, oConst (nI 0)), (26, oRet K 4 24)]
set_option maxRecDepth 100000 in
theorem kL_stream {X : gX} {l : Launch} (hl : l.stackTraces = false) (hM : gM X l cL_stream RL wsL_stream rmL_stream) {K : gK} (hE : gR X K 4 24 (some .int)) (hT : gTb X [(0, 14, 17, 13), (0, 14, 21, 15)]) (hC9 : gXc X) (hnL : X.2.2.2.2.2.2.2.2.2.2.2.2.2.2.2.2 = 7) : okL X (pL_stream K) := by
  obtain ⟨p, l1, e, R, s, m, args, below, meth, c, D, cA, A, ag, ad0, Q, nL⟩ := X
  cases hnL
  refine ⟨ok_aload hM 5 dL_stream_0,
    ok_iconst hM dL_stream_2 rfl,
    ok_aload_n hM 0 dL_stream_3 rfl,
    ok_iload_n hM 1 dL_stream_4 rfl,
    ok_iload_n hM 2 dL_stream_5 rfl,
    ok_iload_n hM 3 dL_stream_6 rfl,
    ok_iload hM 4 dL_stream_7,
    ok_catch hM hT hC9 [("java/lang/IndexOutOfBoundsException", 19, 6), ("java/lang/IllegalArgumentException", 23, 6)] (List.forall_mem_cons.mpr ⟨⟨[], ⟨0, 14, 17, 13⟩, [⟨0, 14, 21, 15⟩], rfl, fun z hz => absurd hz List.not_mem_nil, rfl, by decide, (List.mem_of_getElem? (i := 1) rfl), List.mem_of_getElem? (i := 0) rfl, Nat.le_of_ble_eq_true rfl, Or.inl ⟨dL_stream_17, rfl⟩⟩, List.forall_mem_cons.mpr ⟨⟨[⟨0, 14, 17, 13⟩], ⟨0, 14, 21, 15⟩, [], rfl, fun z hz => by
        rw [List.mem_singleton] at hz
        subst hz
        exact Or.inr ⟨by decide, "java/lang/IndexOutOfBoundsException", (List.mem_of_getElem? (i := 1) rfl), List.mem_of_getElem? (i := 0) rfl⟩, rfl, by decide, (List.mem_of_getElem? (i := 2) rfl), List.mem_of_getElem? (i := 1) rfl, Nat.le_of_ble_eq_true rfl, Or.inl ⟨dL_stream_21, rfl⟩⟩, fun _ h => absurd h List.not_mem_nil⟩⟩) (ctX6_stream l hl) rfl gL_stream_X6_stream rfl rfl rfl (by decide +kernel) (by decide) dL_stream_9,
    ok_i2l hM dL_stream_12,
    ok_outL 99 (ok_last hM dL_stream_13),
    ok_goto hM 25 dL_stream_14 (by decide),
    ok_astore hM 6 dL_stream_17,
    ok_iconst hM dL_stream_19 rfl,
    ok_ret hM hE dL_stream_20,
    ok_astore hM 6 dL_stream_21,
    ok_iconst hM dL_stream_23 rfl,
    ok_ret hM hE dL_stream_24,
    ok_iconst hM dL_stream_25 rfl,
    ok_ret hM hE dL_stream_26,
    trivial⟩
set_option maxRecDepth 100000 in
theorem ctL_stream (l : Launch) (hl : l.stackTraces = false) : CtL l yL_stream wsL_stream rmL_stream 4 24 sL_stream := by
  refine ctL_of (own := RL) (cc := cL_stream) (maxL := 7) (ret := (some .int)) (hh := [(0, 14, 17, 13), (0, 14, 21, 15)]) (by decide) rfl rfl (by rintro _ _ _ ⟨c, wy, f, g, x, y, z, u, k, ans, c', rfl, hinv, hr, rfl, hK⟩; exact Nat.le_of_ble_eq_true rfl) ?_
  intro X av es K hM hE hT hC9 hnL hsp
  obtain ⟨c, wy, f, g, x, y, z, u, k, ans, c', rfl, hinv, hr, rfl, hK⟩ := hsp
  have hf := kL_stream hl hM hE hT hC9 hnL
  obtain ⟨v, n, ch, H, o, s, sf, z0, z1⟩ := c
  obtain ⟨ho, hs, hn, hch, hk, hkH, hk0, hk1⟩ := hinv
  refine wr_ok hf cut_nil 9 0 _ _ _ _ _ ?_
  refine ⟨wX v wy n ch H o s (slX sf z0 z1), _, rfl, Nat.le_of_ble_eq_true rfl, ?_⟩
  refine ⟨x, y, z, u, v, wy, n, ch, H, o, s, slX sf z0 z1, lfv v, rfl, ho, hs, lfv_ok hk, rfl, fun t a b m ht ha hb0 hb hm0 hm e0 e1 e2 e3 wy' => ?_, fun q => ?_, fun p0 q => ?_, fun p0 p1 q => ?_, fun p0 p1 p2 q => ?_⟩
  · refine ⟨wX_l2, ?_⟩
    obtain ⟨rfl, ea, rfl⟩ := hr.1 t a b m ht ha hb0 hb hm0 hm e0 e1 e2 e3
    refine ⟨rfl, _, _, f, rfl, rfl, ?_⟩
    exact hK wy' _ (fun _ => by rw [ea]; exact pk_uLs)
  · refine ⟨wX_l2, 0, _, _, rfl, ?_⟩
    obtain ⟨rfl, rfl⟩ := hr.2.1  q
    exact hK wy f (fun h => absurd h (by decide))
  · refine ⟨wX_l2, 1, _, _, rfl, ?_⟩
    obtain ⟨rfl, rfl⟩ := hr.2.2.1 p0 q
    exact hK wy f (fun h => absurd h (by decide))
  · refine ⟨wX_l2, 1, _, _, rfl, ?_⟩
    obtain ⟨rfl, rfl⟩ := hr.2.2.2.1 p0 p1 q
    exact hK wy f (fun h => absurd h (by decide))
  · refine ⟨wX_l2, 1, _, _, rfl, ?_⟩
    obtain ⟨rfl, rfl⟩ := hr.2.2.2.2 p0 p1 p2 q
    exact hK wy f (fun h => absurd h (by decide))
def sL_flush : gS := fun av es K => ∃ c wy f g x k ans c', av = [.ref 0, .int x, .ref 99] ∧ inv c ∧ r_flush c x k ans c' ∧ es = lwE c wy f g [] ∧ ∀ wy' f', (k = 0 → f' 0 = ans.toInt64) → K (some (.int (nI k))) (lwE c' wy' f' g [])
def rmL_flush : Room := { frames := 9, cells := 1, slots := 6, locals := 152 }
def pL_flush (K : gK) : List (Nat × gO) := [(0, oALoad 2), (1, oConst (nI 0)), (2, oALoad 0), (3, oILoad 1), (4, oCatch 1 6 1 6 6 1 [("java/lang/IndexOutOfBoundsException", 13, 3)] sX6_flush), (7, oI2L), (8, oOutL 99), (9, oGoto 15), (12, oAStore 4 3), (13, oConst (nI 1)), (14, oRet K 1 6), (15, oConst (nI 0)), (16, oRet K 1 6)]
set_option maxRecDepth 100000 in
theorem kL_flush {X : gX} {l : Launch} (hl : l.stackTraces = false) (hM : gM X l cL_flush RL wsL_flush rmL_flush) {K : gK} (hE : gR X K 1 6 (some .int)) (hT : gTb X [(0, 9, 12, 13)]) (hC9 : gXc X) (hnL : X.2.2.2.2.2.2.2.2.2.2.2.2.2.2.2.2 = 4) : okL X (pL_flush K) := by
  obtain ⟨p, l1, e, R, s, m, args, below, meth, c, D, cA, A, ag, ad0, Q, nL⟩ := X
  cases hnL
  refine ⟨ok_aload_n hM 2 dL_flush_0 rfl,
    ok_iconst hM dL_flush_1 rfl,
    ok_aload_n hM 0 dL_flush_2 rfl,
    ok_iload_n hM 1 dL_flush_3 rfl,
    ok_catch hM hT hC9 [("java/lang/IndexOutOfBoundsException", 13, 3)] (List.forall_mem_cons.mpr ⟨⟨[], ⟨0, 9, 12, 13⟩, [], rfl, fun z hz => absurd hz List.not_mem_nil, rfl, by decide, (List.mem_of_getElem? (i := 1) rfl), List.mem_of_getElem? (i := 0) rfl, Nat.le_of_ble_eq_true rfl, Or.inr ⟨3, rfl, dL_flush_12, rfl⟩⟩, fun _ h => absurd h List.not_mem_nil⟩) (ctX6_flush l hl) rfl gL_flush_X6_flush rfl rfl rfl (by decide +kernel) (by decide) dL_flush_4,
    ok_i2l hM dL_flush_7,
    ok_outL 99 (ok_last hM dL_flush_8),
    ok_goto hM 15 dL_flush_9 (by decide),
    ok_astore_n hM 3 dL_flush_12 rfl,
    ok_iconst hM dL_flush_13 rfl,
    ok_ret hM hE dL_flush_14,
    ok_iconst hM dL_flush_15 rfl,
    ok_ret hM hE dL_flush_16,
    trivial⟩
set_option maxRecDepth 100000 in
theorem ctL_flush (l : Launch) (hl : l.stackTraces = false) : CtL l yL_flush wsL_flush rmL_flush 1 6 sL_flush := by
  refine ctL_of (own := RL) (cc := cL_flush) (maxL := 4) (ret := (some .int)) (hh := [(0, 9, 12, 13)]) (by decide) rfl rfl (by rintro _ _ _ ⟨c, wy, f, g, x, k, ans, c', rfl, hinv, hr, rfl, hK⟩; exact Nat.le_of_ble_eq_true rfl) ?_
  intro X av es K hM hE hT hC9 hnL hsp
  obtain ⟨c, wy, f, g, x, k, ans, c', rfl, hinv, hr, rfl, hK⟩ := hsp
  have hf := kL_flush hl hM hE hT hC9 hnL
  obtain ⟨v, n, ch, H, o, s, sf, z0, z1⟩ := c
  obtain ⟨ho, hs, hn, hch, hk, hkH, hk0, hk1⟩ := hinv
  refine wr_ok hf cut_nil 9 0 _ _ _ _ _ ?_
  refine ⟨wX v wy n ch H o s (slX sf z0 z1), _, rfl, Nat.le_of_ble_eq_true rfl, ?_⟩
  refine ⟨x, v, wy, n, ch, H, o, s, slX sf z0 z1, rfl, ho, hs, rfl, fun t ht e0 => ?_, fun q => ?_⟩
  · refine ⟨wX_l2, ?_⟩
    obtain ⟨rfl, ea, rfl⟩ := hr.1 t ht e0
    refine ⟨rfl, _, _, f, rfl, rfl, ?_⟩
    exact hK wy _ (fun _ => by rw [ea]; exact pk_uLs)
  · refine ⟨wX_l2, 0, _, _, rfl, ?_⟩
    obtain ⟨rfl, rfl⟩ := hr.2  q
    exact hK wy f (fun h => absurd h (by decide))
def sL_giveWay : gS := fun av es K => ∃ c wy f g x y k ans c', av = [.ref 0, .int x, .int y, .ref 99] ∧ inv c ∧ r_giveWay c x y k ans c' ∧ es = lwE c wy f g [] ∧ ∀ wy' f', (k = 0 → f' 0 = ans.toInt64) → K (some (.int (nI k))) (lwE c' wy' f' g [])
def rmL_giveWay : Room := { frames := 9, cells := 2, slots := 12, locals := 154 }
def pL_giveWay (K : gK) : List (Nat × gO) := [(0, oALoad 3), (1, oConst (nI 0)), (2, oALoad 0), (3, oILoad 1), (4, oILoad 2), (5, oCatch 2 12 2 12 6 2 [("java/lang/IndexOutOfBoundsException", 15, 4)] sX6_giveWay), (8, oI2L), (9, oOutL 99), (10, oGoto 17), (13, oAStore 5 4), (15, oConst (nI 1)), (16, oRet K 2 12), (17, oConst (nI 0)), (18, oRet K 2 12)]
set_option maxRecDepth 100000 in
theorem kL_giveWay {X : gX} {l : Launch} (hl : l.stackTraces = false) (hM : gM X l cL_giveWay RL wsL_giveWay rmL_giveWay) {K : gK} (hE : gR X K 2 12 (some .int)) (hT : gTb X [(0, 10, 13, 13)]) (hC9 : gXc X) (hnL : X.2.2.2.2.2.2.2.2.2.2.2.2.2.2.2.2 = 5) : okL X (pL_giveWay K) := by
  obtain ⟨p, l1, e, R, s, m, args, below, meth, c, D, cA, A, ag, ad0, Q, nL⟩ := X
  cases hnL
  refine ⟨ok_aload_n hM 3 dL_giveWay_0 rfl,
    ok_iconst hM dL_giveWay_1 rfl,
    ok_aload_n hM 0 dL_giveWay_2 rfl,
    ok_iload_n hM 1 dL_giveWay_3 rfl,
    ok_iload_n hM 2 dL_giveWay_4 rfl,
    ok_catch hM hT hC9 [("java/lang/IndexOutOfBoundsException", 15, 4)] (List.forall_mem_cons.mpr ⟨⟨[], ⟨0, 10, 13, 13⟩, [], rfl, fun z hz => absurd hz List.not_mem_nil, rfl, by decide, (List.mem_of_getElem? (i := 1) rfl), List.mem_of_getElem? (i := 0) rfl, Nat.le_of_ble_eq_true rfl, Or.inl ⟨dL_giveWay_13, rfl⟩⟩, fun _ h => absurd h List.not_mem_nil⟩) (ctX6_giveWay l hl) rfl gL_giveWay_X6_giveWay rfl rfl rfl (by decide +kernel) (by decide) dL_giveWay_5,
    ok_i2l hM dL_giveWay_8,
    ok_outL 99 (ok_last hM dL_giveWay_9),
    ok_goto hM 17 dL_giveWay_10 (by decide),
    ok_astore hM 4 dL_giveWay_13,
    ok_iconst hM dL_giveWay_15 rfl,
    ok_ret hM hE dL_giveWay_16,
    ok_iconst hM dL_giveWay_17 rfl,
    ok_ret hM hE dL_giveWay_18,
    trivial⟩
set_option maxRecDepth 100000 in
theorem ctL_giveWay (l : Launch) (hl : l.stackTraces = false) : CtL l yL_giveWay wsL_giveWay rmL_giveWay 2 12 sL_giveWay := by
  refine ctL_of (own := RL) (cc := cL_giveWay) (maxL := 5) (ret := (some .int)) (hh := [(0, 10, 13, 13)]) (by decide) rfl rfl (by rintro _ _ _ ⟨c, wy, f, g, x, y, k, ans, c', rfl, hinv, hr, rfl, hK⟩; exact Nat.le_of_ble_eq_true rfl) ?_
  intro X av es K hM hE hT hC9 hnL hsp
  obtain ⟨c, wy, f, g, x, y, k, ans, c', rfl, hinv, hr, rfl, hK⟩ := hsp
  have hf := kL_giveWay hl hM hE hT hC9 hnL
  obtain ⟨v, n, ch, H, o, s, sf, z0, z1⟩ := c
  obtain ⟨ho, hs, hn, hch, hk, hkH, hk0, hk1⟩ := hinv
  refine wr_ok hf cut_nil 9 0 _ _ _ _ _ ?_
  refine ⟨wX v wy n ch H o s (slX sf z0 z1), _, rfl, Nat.le_of_ble_eq_true rfl, ?_⟩
  refine ⟨x, y, v, wy, n, ch, H, o, s, slX sf z0 z1, rfl, ho, hs, rfl, fun w t hw ht e0 e1 => ?_, fun q => ?_, fun p0 q => ?_⟩
  · refine ⟨wX_l2, ?_⟩
    obtain ⟨rfl, ea, rfl⟩ := hr.1 w t hw ht e0 e1
    refine ⟨rfl, _, _, f, rfl, rfl, ?_⟩
    exact hK wy _ (fun _ => by rw [ea]; exact pk_uLs)
  · refine ⟨wX_l2, 0, _, _, rfl, ?_⟩
    obtain ⟨rfl, rfl⟩ := hr.2.1  q
    exact hK wy f (fun h => absurd h (by decide))
  · refine ⟨wX_l2, 0, _, _, rfl, ?_⟩
    obtain ⟨rfl, rfl⟩ := hr.2.2 p0 q
    exact hK wy f (fun h => absurd h (by decide))
def sL_setLeast : gS := fun av es K => ∃ c wy f g x y k ans c', av = [.ref 0, .int x, .int y, .ref 99] ∧ inv c ∧ r_setLeast c x y k ans c' ∧ es = lwE c wy f g [] ∧ ∀ wy' f', (k = 0 → f' 0 = ans.toInt64) → K (some (.int (nI k))) (lwE c' wy' f' g [])
def rmL_setLeast : Room := { frames := 9, cells := 2, slots := 12, locals := 154 }
def pL_setLeast (K : gK) : List (Nat × gO) := [(0, oALoad 3), (1, oConst (nI 0)), (2, oALoad 0), (3, oILoad 1), (4, oILoad 2), (5, oCatch 2 12 2 12 6 2 [("java/lang/IndexOutOfBoundsException", 15, 4), ("java/lang/IllegalArgumentException", 19, 4)] sX6_setLeast), (8, oI2L), (9, oOutL 99), (10, oGoto 21), (13, oAStore 5 4), (15, oConst (nI 1)), (16, oRet K 2 12), (17, oAStore 5 4), (19, oConst (nI 2)), (20, oRet K 2 12), (21, oConst (nI 0)), (22, oRet K 2 12)]
set_option maxRecDepth 100000 in
theorem kL_setLeast {X : gX} {l : Launch} (hl : l.stackTraces = false) (hM : gM X l cL_setLeast RL wsL_setLeast rmL_setLeast) {K : gK} (hE : gR X K 2 12 (some .int)) (hT : gTb X [(0, 10, 13, 13), (0, 10, 17, 15)]) (hC9 : gXc X) (hnL : X.2.2.2.2.2.2.2.2.2.2.2.2.2.2.2.2 = 5) : okL X (pL_setLeast K) := by
  obtain ⟨p, l1, e, R, s, m, args, below, meth, c, D, cA, A, ag, ad0, Q, nL⟩ := X
  cases hnL
  refine ⟨ok_aload_n hM 3 dL_setLeast_0 rfl,
    ok_iconst hM dL_setLeast_1 rfl,
    ok_aload_n hM 0 dL_setLeast_2 rfl,
    ok_iload_n hM 1 dL_setLeast_3 rfl,
    ok_iload_n hM 2 dL_setLeast_4 rfl,
    ok_catch hM hT hC9 [("java/lang/IndexOutOfBoundsException", 15, 4), ("java/lang/IllegalArgumentException", 19, 4)] (List.forall_mem_cons.mpr ⟨⟨[], ⟨0, 10, 13, 13⟩, [⟨0, 10, 17, 15⟩], rfl, fun z hz => absurd hz List.not_mem_nil, rfl, by decide, (List.mem_of_getElem? (i := 1) rfl), List.mem_of_getElem? (i := 0) rfl, Nat.le_of_ble_eq_true rfl, Or.inl ⟨dL_setLeast_13, rfl⟩⟩, List.forall_mem_cons.mpr ⟨⟨[⟨0, 10, 13, 13⟩], ⟨0, 10, 17, 15⟩, [], rfl, fun z hz => by
        rw [List.mem_singleton] at hz
        subst hz
        exact Or.inr ⟨by decide, "java/lang/IndexOutOfBoundsException", (List.mem_of_getElem? (i := 1) rfl), List.mem_of_getElem? (i := 0) rfl⟩, rfl, by decide, (List.mem_of_getElem? (i := 2) rfl), List.mem_of_getElem? (i := 1) rfl, Nat.le_of_ble_eq_true rfl, Or.inl ⟨dL_setLeast_17, rfl⟩⟩, fun _ h => absurd h List.not_mem_nil⟩⟩) (ctX6_setLeast l hl) rfl gL_setLeast_X6_setLeast rfl rfl rfl (by decide +kernel) (by decide) dL_setLeast_5,
    ok_i2l hM dL_setLeast_8,
    ok_outL 99 (ok_last hM dL_setLeast_9),
    ok_goto hM 21 dL_setLeast_10 (by decide),
    ok_astore hM 4 dL_setLeast_13,
    ok_iconst hM dL_setLeast_15 rfl,
    ok_ret hM hE dL_setLeast_16,
    ok_astore hM 4 dL_setLeast_17,
    ok_iconst hM dL_setLeast_19 rfl,
    ok_ret hM hE dL_setLeast_20,
    ok_iconst hM dL_setLeast_21 rfl,
    ok_ret hM hE dL_setLeast_22,
    trivial⟩
set_option maxRecDepth 100000 in
theorem ctL_setLeast (l : Launch) (hl : l.stackTraces = false) : CtL l yL_setLeast wsL_setLeast rmL_setLeast 2 12 sL_setLeast := by
  refine ctL_of (own := RL) (cc := cL_setLeast) (maxL := 5) (ret := (some .int)) (hh := [(0, 10, 13, 13), (0, 10, 17, 15)]) (by decide) rfl rfl (by rintro _ _ _ ⟨c, wy, f, g, x, y, k, ans, c', rfl, hinv, hr, rfl, hK⟩; exact Nat.le_of_ble_eq_true rfl) ?_
  intro X av es K hM hE hT hC9 hnL hsp
  obtain ⟨c, wy, f, g, x, y, k, ans, c', rfl, hinv, hr, rfl, hK⟩ := hsp
  have hf := kL_setLeast hl hM hE hT hC9 hnL
  obtain ⟨v, n, ch, H, o, s, sf, z0, z1⟩ := c
  obtain ⟨ho, hs, hn, hch, hk, hkH, hk0, hk1⟩ := hinv
  refine wr_ok hf cut_nil 9 0 _ _ _ _ _ ?_
  refine ⟨wX v wy n ch H o s (slX sf z0 z1), _, rfl, Nat.le_of_ble_eq_true rfl, ?_⟩
  refine ⟨x, y, v, wy, n, ch, H, o, s, slX sf z0 z1, rfl, ho, hs, rfl, fun t l ht hl e0 e1 => ?_, fun q => ?_, fun p0 q => ?_⟩
  · refine ⟨wX_l2, ?_⟩
    obtain ⟨rfl, ea, rfl⟩ := hr.1 t l ht hl e0 e1
    refine ⟨rfl, _, _, f, rfl, rfl, ?_⟩
    exact hK wy _ (fun _ => by rw [ea]; exact pk_uLs)
  · refine ⟨wX_l2, 0, _, _, rfl, ?_⟩
    obtain ⟨rfl, rfl⟩ := hr.2.1  q
    exact hK wy f (fun h => absurd h (by decide))
  · refine ⟨wX_l2, 1, _, _, rfl, ?_⟩
    obtain ⟨rfl, rfl⟩ := hr.2.2 p0 q
    exact hK wy f (fun h => absurd h (by decide))
def sL_setEpoch : gS := fun av es K => ∃ c wy f g x k ans c', av = [.ref 0, .int x, .ref 99] ∧ inv c ∧ r_setEpoch c x k ans c' ∧ es = lwE c wy f g [] ∧ ∀ wy' f', (k = 0 → f' 0 = ans.toInt64) → K (some (.int (nI k))) (lwE c' wy' f' g [])
def rmL_setEpoch : Room := { frames := 8, cells := 1, slots := 6, locals := 145 }
def pL_setEpoch (K : gK) : List (Nat × gO) := [(0, oALoad 2), (1, oConst (nI 0)), (2, oALoad 0), (3, oILoad 1), (4, oCatch 1 6 1 6 6 1 [("java/lang/IllegalArgumentException", 13, 3)] sX6_setEpoch), (7, oI2L), (8, oOutL 99), (9, oGoto 15), (12, oAStore 4 3), (13, oConst (nI 1)), (14, oRet K 1 6), (15, oConst (nI 0)), (16, oRet K 1 6)]
set_option maxRecDepth 100000 in
theorem kL_setEpoch {X : gX} {l : Launch} (hl : l.stackTraces = false) (hM : gM X l cL_setEpoch RL wsL_setEpoch rmL_setEpoch) {K : gK} (hE : gR X K 1 6 (some .int)) (hT : gTb X [(0, 9, 12, 15)]) (hC9 : gXc X) (hnL : X.2.2.2.2.2.2.2.2.2.2.2.2.2.2.2.2 = 4) : okL X (pL_setEpoch K) := by
  obtain ⟨p, l1, e, R, s, m, args, below, meth, c, D, cA, A, ag, ad0, Q, nL⟩ := X
  cases hnL
  refine ⟨ok_aload_n hM 2 dL_setEpoch_0 rfl,
    ok_iconst hM dL_setEpoch_1 rfl,
    ok_aload_n hM 0 dL_setEpoch_2 rfl,
    ok_iload_n hM 1 dL_setEpoch_3 rfl,
    ok_catch hM hT hC9 [("java/lang/IllegalArgumentException", 13, 3)] (List.forall_mem_cons.mpr ⟨⟨[], ⟨0, 9, 12, 15⟩, [], rfl, fun z hz => absurd hz List.not_mem_nil, rfl, by decide, (List.mem_of_getElem? (i := 1) rfl), List.mem_of_getElem? (i := 1) rfl, Nat.le_of_ble_eq_true rfl, Or.inr ⟨3, rfl, dL_setEpoch_12, rfl⟩⟩, fun _ h => absurd h List.not_mem_nil⟩) (ctX6_setEpoch l hl) rfl gL_setEpoch_X6_setEpoch rfl rfl rfl (by decide +kernel) (by decide) dL_setEpoch_4,
    ok_i2l hM dL_setEpoch_7,
    ok_outL 99 (ok_last hM dL_setEpoch_8),
    ok_goto hM 15 dL_setEpoch_9 (by decide),
    ok_astore_n hM 3 dL_setEpoch_12 rfl,
    ok_iconst hM dL_setEpoch_13 rfl,
    ok_ret hM hE dL_setEpoch_14,
    ok_iconst hM dL_setEpoch_15 rfl,
    ok_ret hM hE dL_setEpoch_16,
    trivial⟩
set_option maxRecDepth 100000 in
theorem ctL_setEpoch (l : Launch) (hl : l.stackTraces = false) : CtL l yL_setEpoch wsL_setEpoch rmL_setEpoch 1 6 sL_setEpoch := by
  refine ctL_of (own := RL) (cc := cL_setEpoch) (maxL := 4) (ret := (some .int)) (hh := [(0, 9, 12, 15)]) (by decide) rfl rfl (by rintro _ _ _ ⟨c, wy, f, g, x, k, ans, c', rfl, hinv, hr, rfl, hK⟩; exact Nat.le_of_ble_eq_true rfl) ?_
  intro X av es K hM hE hT hC9 hnL hsp
  obtain ⟨c, wy, f, g, x, k, ans, c', rfl, hinv, hr, rfl, hK⟩ := hsp
  have hf := kL_setEpoch hl hM hE hT hC9 hnL
  obtain ⟨v, n, ch, H, o, s, sf, z0, z1⟩ := c
  obtain ⟨ho, hs, hn, hch, hk, hkH, hk0, hk1⟩ := hinv
  refine wr_ok hf cut_nil 9 0 _ _ _ _ _ ?_
  refine ⟨wX v wy n ch H o s (slX sf z0 z1), _, rfl, Nat.le_of_ble_eq_true rfl, ?_⟩
  refine ⟨x, v, wy, n, ch, H, o, s, slX sf z0 z1, rfl, ho, hs, rfl, fun e he e0 => ?_, fun q => ?_⟩
  · refine ⟨wX_l2, ?_⟩
    obtain ⟨rfl, ea, rfl⟩ := hr.1 e he e0
    refine ⟨rfl, _, _, f, rfl, rfl, ?_⟩
    exact hK wy _ (fun _ => by rw [ea]; exact pk_uLs)
  · refine ⟨wX_l2, 0, _, _, rfl, ?_⟩
    obtain ⟨rfl, rfl⟩ := hr.2  q
    exact hK wy f (fun h => absurd h (by decide))
def sL_owner : gS := fun av es K => ∃ c wy f g x k ans c', av = [.ref 0, .int x, .ref 99] ∧ inv c ∧ r_owner c x k ans c' ∧ es = lwE c wy f g [] ∧ ∀ wy' f', (k = 0 → f' 0 = ans.toInt64) → K (some (.int (nI k))) (lwE c' wy' f' g [])
def rmL_owner : Room := { frames := 8, cells := 1, slots := 6, locals := 132 }
def pL_owner (K : gK) : List (Nat × gO) := [(0, oALoad 2), (1, oConst (nI 0)), (2, oALoad 0), (3, oILoad 1), (4, oCatch 1 6 1 6 6 1 [("java/lang/IndexOutOfBoundsException", 13, 3)] sX6_owner), (7, oI2L), (8, oOutL 99), (9, oGoto 15), (12, oAStore 4 3), (13, oConst (nI 1)), (14, oRet K 1 6), (15, oConst (nI 0)), (16, oRet K 1 6)]
set_option maxRecDepth 100000 in
theorem kL_owner {X : gX} {l : Launch} (hl : l.stackTraces = false) (hM : gM X l cL_owner RL wsL_owner rmL_owner) {K : gK} (hE : gR X K 1 6 (some .int)) (hT : gTb X [(0, 9, 12, 13)]) (hC9 : gXc X) (hnL : X.2.2.2.2.2.2.2.2.2.2.2.2.2.2.2.2 = 4) : okL X (pL_owner K) := by
  obtain ⟨p, l1, e, R, s, m, args, below, meth, c, D, cA, A, ag, ad0, Q, nL⟩ := X
  cases hnL
  refine ⟨ok_aload_n hM 2 dL_owner_0 rfl,
    ok_iconst hM dL_owner_1 rfl,
    ok_aload_n hM 0 dL_owner_2 rfl,
    ok_iload_n hM 1 dL_owner_3 rfl,
    ok_catch hM hT hC9 [("java/lang/IndexOutOfBoundsException", 13, 3)] (List.forall_mem_cons.mpr ⟨⟨[], ⟨0, 9, 12, 13⟩, [], rfl, fun z hz => absurd hz List.not_mem_nil, rfl, by decide, (List.mem_of_getElem? (i := 1) rfl), List.mem_of_getElem? (i := 0) rfl, Nat.le_of_ble_eq_true rfl, Or.inr ⟨3, rfl, dL_owner_12, rfl⟩⟩, fun _ h => absurd h List.not_mem_nil⟩) (ctX6_owner l hl) rfl gL_owner_X6_owner rfl rfl rfl (by decide +kernel) (by decide) dL_owner_4,
    ok_i2l hM dL_owner_7,
    ok_outL 99 (ok_last hM dL_owner_8),
    ok_goto hM 15 dL_owner_9 (by decide),
    ok_astore_n hM 3 dL_owner_12 rfl,
    ok_iconst hM dL_owner_13 rfl,
    ok_ret hM hE dL_owner_14,
    ok_iconst hM dL_owner_15 rfl,
    ok_ret hM hE dL_owner_16,
    trivial⟩
set_option maxRecDepth 100000 in
theorem ctL_owner (l : Launch) (hl : l.stackTraces = false) : CtL l yL_owner wsL_owner rmL_owner 1 6 sL_owner := by
  refine ctL_of (own := RL) (cc := cL_owner) (maxL := 4) (ret := (some .int)) (hh := [(0, 9, 12, 13)]) (by decide) rfl rfl (by rintro _ _ _ ⟨c, wy, f, g, x, k, ans, c', rfl, hinv, hr, rfl, hK⟩; exact Nat.le_of_ble_eq_true rfl) ?_
  intro X av es K hM hE hT hC9 hnL hsp
  obtain ⟨c, wy, f, g, x, k, ans, c', rfl, hinv, hr, rfl, hK⟩ := hsp
  have hf := kL_owner hl hM hE hT hC9 hnL
  obtain ⟨v, n, ch, H, o, s, sf, z0, z1⟩ := c
  obtain ⟨ho, hs, hn, hch, hk, hkH, hk0, hk1⟩ := hinv
  refine wr_ok hf cut_nil 9 0 _ _ _ _ _ ?_
  refine ⟨wX v wy n ch H o s (slX sf z0 z1), _, rfl, Nat.le_of_ble_eq_true rfl, ?_⟩
  refine ⟨x, v, wy, n, ch, H, o, s, slX sf z0 z1, rfl, ho, hs, rfl, fun w hw e0 => ?_, fun q => ?_⟩
  · refine ⟨wX_l2, ?_⟩
    obtain ⟨rfl, ea, rfl⟩ := hr.1 w hw e0
    refine ⟨rfl, _, _, f, rfl, rfl, ?_⟩
    exact hK wy _ (fun _ => by rw [ea]; exact pk_uLs)
  · refine ⟨wX_l2, 0, _, _, rfl, ?_⟩
    obtain ⟨rfl, rfl⟩ := hr.2  q
    exact hK wy f (fun h => absurd h (by decide))
def sL_waysOf : gS := fun av es K => ∃ c wy f g x k ans c', av = [.ref 0, .int x, .ref 99] ∧ inv c ∧ r_waysOf c x k ans c' ∧ es = lwE c wy f g [] ∧ ∀ wy' f', (k = 0 → f' 0 = ans.toInt64) → K (some (.int (nI k))) (lwE c' wy' f' g [])
def rmL_waysOf : Room := { frames := 9, cells := 1, slots := 6, locals := 152 }
def pL_waysOf (K : gK) : List (Nat × gO) := [(0, oALoad 2), (1, oConst (nI 0)), (2, oALoad 0), (3, oILoad 1), (4, oCatch 1 6 1 6 6 1 [("java/lang/IndexOutOfBoundsException", 13, 3)] sX6_waysOf), (7, oI2L), (8, oOutL 99), (9, oGoto 15), (12, oAStore 4 3), (13, oConst (nI 1)), (14, oRet K 1 6), (15, oConst (nI 0)), (16, oRet K 1 6)]
set_option maxRecDepth 100000 in
theorem kL_waysOf {X : gX} {l : Launch} (hl : l.stackTraces = false) (hM : gM X l cL_waysOf RL wsL_waysOf rmL_waysOf) {K : gK} (hE : gR X K 1 6 (some .int)) (hT : gTb X [(0, 9, 12, 13)]) (hC9 : gXc X) (hnL : X.2.2.2.2.2.2.2.2.2.2.2.2.2.2.2.2 = 4) : okL X (pL_waysOf K) := by
  obtain ⟨p, l1, e, R, s, m, args, below, meth, c, D, cA, A, ag, ad0, Q, nL⟩ := X
  cases hnL
  refine ⟨ok_aload_n hM 2 dL_waysOf_0 rfl,
    ok_iconst hM dL_waysOf_1 rfl,
    ok_aload_n hM 0 dL_waysOf_2 rfl,
    ok_iload_n hM 1 dL_waysOf_3 rfl,
    ok_catch hM hT hC9 [("java/lang/IndexOutOfBoundsException", 13, 3)] (List.forall_mem_cons.mpr ⟨⟨[], ⟨0, 9, 12, 13⟩, [], rfl, fun z hz => absurd hz List.not_mem_nil, rfl, by decide, (List.mem_of_getElem? (i := 1) rfl), List.mem_of_getElem? (i := 0) rfl, Nat.le_of_ble_eq_true rfl, Or.inr ⟨3, rfl, dL_waysOf_12, rfl⟩⟩, fun _ h => absurd h List.not_mem_nil⟩) (ctX6_waysOf l hl) rfl gL_waysOf_X6_waysOf rfl rfl rfl (by decide +kernel) (by decide) dL_waysOf_4,
    ok_i2l hM dL_waysOf_7,
    ok_outL 99 (ok_last hM dL_waysOf_8),
    ok_goto hM 15 dL_waysOf_9 (by decide),
    ok_astore_n hM 3 dL_waysOf_12 rfl,
    ok_iconst hM dL_waysOf_13 rfl,
    ok_ret hM hE dL_waysOf_14,
    ok_iconst hM dL_waysOf_15 rfl,
    ok_ret hM hE dL_waysOf_16,
    trivial⟩
set_option maxRecDepth 100000 in
theorem ctL_waysOf (l : Launch) (hl : l.stackTraces = false) : CtL l yL_waysOf wsL_waysOf rmL_waysOf 1 6 sL_waysOf := by
  refine ctL_of (own := RL) (cc := cL_waysOf) (maxL := 4) (ret := (some .int)) (hh := [(0, 9, 12, 13)]) (by decide) rfl rfl (by rintro _ _ _ ⟨c, wy, f, g, x, k, ans, c', rfl, hinv, hr, rfl, hK⟩; exact Nat.le_of_ble_eq_true rfl) ?_
  intro X av es K hM hE hT hC9 hnL hsp
  obtain ⟨c, wy, f, g, x, k, ans, c', rfl, hinv, hr, rfl, hK⟩ := hsp
  have hf := kL_waysOf hl hM hE hT hC9 hnL
  obtain ⟨v, n, ch, H, o, s, sf, z0, z1⟩ := c
  obtain ⟨ho, hs, hn, hch, hk, hkH, hk0, hk1⟩ := hinv
  refine wr_ok hf cut_nil 9 0 _ _ _ _ _ ?_
  refine ⟨wX v wy n ch H o s (slX sf z0 z1), _, rfl, Nat.le_of_ble_eq_true rfl, ?_⟩
  refine ⟨x, v, wy, n, ch, H, o, s, slX sf z0 z1, rfl, ho, hs, rfl, fun t ht e0 => ?_, fun q => ?_⟩
  · refine ⟨wX_l2, ?_⟩
    obtain ⟨rfl, ea, rfl⟩ := hr.1 t ht e0
    refine ⟨rfl, _, _, f, rfl, rfl, ?_⟩
    exact hK wy _ (fun _ => by rw [ea]; exact pk_uLs)
  · refine ⟨wX_l2, 0, _, _, rfl, ?_⟩
    obtain ⟨rfl, rfl⟩ := hr.2  q
    exact hK wy f (fun h => absurd h (by decide))
def sL_line : gS := fun av es K => ∃ c wy f g x y k ans c', av = [.ref 0, .int x, .int y, .ref 99] ∧ inv c ∧ r_line c x y k ans c' ∧ es = lwE c wy f g [] ∧ ∀ wy' f', (k = 0 → f' 0 = ans.toInt64) → K (some (.int (nI k))) (lwE c' wy' f' g [])
def rmL_line : Room := { frames := 8, cells := 2, slots := 12, locals := 133 }
def pL_line (K : gK) : List (Nat × gO) := [(0, oALoad 3), (1, oConst (nI 0)), (2, oALoad 0), (3, oILoad 1), (4, oILoad 2), (5, oCatch 2 12 2 12 6 2 [("java/lang/IndexOutOfBoundsException", 15, 4)] sX6_line), (8, oI2L), (9, oOutL 99), (10, oGoto 17), (13, oAStore 5 4), (15, oConst (nI 1)), (16, oRet K 2 12), (17, oConst (nI 0)), (18, oRet K 2 12)]
set_option maxRecDepth 100000 in
theorem kL_line {X : gX} {l : Launch} (hl : l.stackTraces = false) (hM : gM X l cL_line RL wsL_line rmL_line) {K : gK} (hE : gR X K 2 12 (some .int)) (hT : gTb X [(0, 10, 13, 13)]) (hC9 : gXc X) (hnL : X.2.2.2.2.2.2.2.2.2.2.2.2.2.2.2.2 = 5) : okL X (pL_line K) := by
  obtain ⟨p, l1, e, R, s, m, args, below, meth, c, D, cA, A, ag, ad0, Q, nL⟩ := X
  cases hnL
  refine ⟨ok_aload_n hM 3 dL_line_0 rfl,
    ok_iconst hM dL_line_1 rfl,
    ok_aload_n hM 0 dL_line_2 rfl,
    ok_iload_n hM 1 dL_line_3 rfl,
    ok_iload_n hM 2 dL_line_4 rfl,
    ok_catch hM hT hC9 [("java/lang/IndexOutOfBoundsException", 15, 4)] (List.forall_mem_cons.mpr ⟨⟨[], ⟨0, 10, 13, 13⟩, [], rfl, fun z hz => absurd hz List.not_mem_nil, rfl, by decide, (List.mem_of_getElem? (i := 1) rfl), List.mem_of_getElem? (i := 0) rfl, Nat.le_of_ble_eq_true rfl, Or.inl ⟨dL_line_13, rfl⟩⟩, fun _ h => absurd h List.not_mem_nil⟩) (ctX6_line l hl) rfl gL_line_X6_line rfl rfl rfl (by decide +kernel) (by decide) dL_line_5,
    ok_i2l hM dL_line_8,
    ok_outL 99 (ok_last hM dL_line_9),
    ok_goto hM 17 dL_line_10 (by decide),
    ok_astore hM 4 dL_line_13,
    ok_iconst hM dL_line_15 rfl,
    ok_ret hM hE dL_line_16,
    ok_iconst hM dL_line_17 rfl,
    ok_ret hM hE dL_line_18,
    trivial⟩
set_option maxRecDepth 100000 in
theorem ctL_line (l : Launch) (hl : l.stackTraces = false) : CtL l yL_line wsL_line rmL_line 2 12 sL_line := by
  refine ctL_of (own := RL) (cc := cL_line) (maxL := 5) (ret := (some .int)) (hh := [(0, 10, 13, 13)]) (by decide) rfl rfl (by rintro _ _ _ ⟨c, wy, f, g, x, y, k, ans, c', rfl, hinv, hr, rfl, hK⟩; exact Nat.le_of_ble_eq_true rfl) ?_
  intro X av es K hM hE hT hC9 hnL hsp
  obtain ⟨c, wy, f, g, x, y, k, ans, c', rfl, hinv, hr, rfl, hK⟩ := hsp
  have hf := kL_line hl hM hE hT hC9 hnL
  obtain ⟨v, n, ch, H, o, s, sf, z0, z1⟩ := c
  obtain ⟨ho, hs, hn, hch, hk, hkH, hk0, hk1⟩ := hinv
  refine wr_ok hf cut_nil 9 0 _ _ _ _ _ ?_
  refine ⟨wX v wy n ch H o s (slX sf z0 z1), _, rfl, Nat.le_of_ble_eq_true rfl, ?_⟩
  refine ⟨x, y, v, wy, n, ch, H, o, s, slX sf z0 z1, rfl, ho, hs, rfl, fun t w ht hw e0 e1 => ?_, fun q => ?_, fun p0 q => ?_⟩
  · refine ⟨wX_l2, ?_⟩
    obtain ⟨rfl, ea, rfl⟩ := hr.1 t w ht hw e0 e1
    refine ⟨rfl, _, _, f, rfl, rfl, ?_⟩
    exact hK wy _ (fun _ => by rw [ea]; exact pk_uLs)
  · refine ⟨wX_l2, 0, _, _, rfl, ?_⟩
    obtain ⟨rfl, rfl⟩ := hr.2.1  q
    exact hK wy f (fun h => absurd h (by decide))
  · refine ⟨wX_l2, 0, _, _, rfl, ?_⟩
    obtain ⟨rfl, rfl⟩ := hr.2.2 p0 q
    exact hK wy f (fun h => absurd h (by decide))
def sL_lines : gS := fun av es K => ∃ c wy f g x y k ans c', av = [.ref 0, .int x, .int y, .ref 99] ∧ inv c ∧ r_lines c x y k ans c' ∧ es = lwE c wy f g [] ∧ ∀ wy' f', (k = 0 → f' 0 = ans.toInt64) → K (some (.int (nI k))) (lwE c' wy' f' g [])
def rmL_lines : Room := { frames := 9, cells := 1, slots := 6, locals := 154 }
def pL_lines (K : gK) : List (Nat × gO) := [(0, oALoad 3), (1, oConst (nI 0)), (2, oALoad 0), (3, oILoad 1), (4, oILoad 2), (5, oCatch 1 6 1 6 6 2 [("java/lang/IndexOutOfBoundsException", 15, 4)] sX6_lines), (8, oI2L), (9, oOutL 99), (10, oGoto 17), (13, oAStore 5 4), (15, oConst (nI 1)), (16, oRet K 1 6), (17, oConst (nI 0)), (18, oRet K 1 6)]
set_option maxRecDepth 100000 in
theorem kL_lines {X : gX} {l : Launch} (hl : l.stackTraces = false) (hM : gM X l cL_lines RL wsL_lines rmL_lines) {K : gK} (hE : gR X K 1 6 (some .int)) (hT : gTb X [(0, 10, 13, 13)]) (hC9 : gXc X) (hnL : X.2.2.2.2.2.2.2.2.2.2.2.2.2.2.2.2 = 5) : okL X (pL_lines K) := by
  obtain ⟨p, l1, e, R, s, m, args, below, meth, c, D, cA, A, ag, ad0, Q, nL⟩ := X
  cases hnL
  refine ⟨ok_aload_n hM 3 dL_lines_0 rfl,
    ok_iconst hM dL_lines_1 rfl,
    ok_aload_n hM 0 dL_lines_2 rfl,
    ok_iload_n hM 1 dL_lines_3 rfl,
    ok_iload_n hM 2 dL_lines_4 rfl,
    ok_catch hM hT hC9 [("java/lang/IndexOutOfBoundsException", 15, 4)] (List.forall_mem_cons.mpr ⟨⟨[], ⟨0, 10, 13, 13⟩, [], rfl, fun z hz => absurd hz List.not_mem_nil, rfl, by decide, (List.mem_of_getElem? (i := 1) rfl), List.mem_of_getElem? (i := 0) rfl, Nat.le_of_ble_eq_true rfl, Or.inl ⟨dL_lines_13, rfl⟩⟩, fun _ h => absurd h List.not_mem_nil⟩) (ctX6_lines l hl) rfl gL_lines_X6_lines rfl rfl rfl (by decide +kernel) (by decide) dL_lines_5,
    ok_i2l hM dL_lines_8,
    ok_outL 99 (ok_last hM dL_lines_9),
    ok_goto hM 17 dL_lines_10 (by decide),
    ok_astore hM 4 dL_lines_13,
    ok_iconst hM dL_lines_15 rfl,
    ok_ret hM hE dL_lines_16,
    ok_iconst hM dL_lines_17 rfl,
    ok_ret hM hE dL_lines_18,
    trivial⟩
set_option maxRecDepth 100000 in
theorem ctL_lines (l : Launch) (hl : l.stackTraces = false) : CtL l yL_lines wsL_lines rmL_lines 1 6 sL_lines := by
  refine ctL_of (own := RL) (cc := cL_lines) (maxL := 5) (ret := (some .int)) (hh := [(0, 10, 13, 13)]) (by decide) rfl rfl (by rintro _ _ _ ⟨c, wy, f, g, x, y, k, ans, c', rfl, hinv, hr, rfl, hK⟩; exact Nat.le_of_ble_eq_true rfl) ?_
  intro X av es K hM hE hT hC9 hnL hsp
  obtain ⟨c, wy, f, g, x, y, k, ans, c', rfl, hinv, hr, rfl, hK⟩ := hsp
  have hf := kL_lines hl hM hE hT hC9 hnL
  obtain ⟨v, n, ch, H, o, s, sf, z0, z1⟩ := c
  obtain ⟨ho, hs, hn, hch, hk, hkH, hk0, hk1⟩ := hinv
  refine wr_ok hf cut_nil 9 0 _ _ _ _ _ ?_
  refine ⟨wX v wy n ch H o s (slX sf z0 z1), _, rfl, Nat.le_of_ble_eq_true rfl, ?_⟩
  refine ⟨x, y, v, wy, n, ch, H, o, s, slX sf z0 z1, rfl, ho, hs, rfl, fun t ht e0 => ?_, fun q => ?_⟩
  · refine ⟨wX_l2, ?_⟩
    obtain ⟨rfl, ea, rfl⟩ := hr.1 t ht e0
    refine ⟨rfl, _, _, f, rfl, rfl, ?_⟩
    exact hK wy _ (fun _ => by rw [ea]; exact pk_uLs)
  · refine ⟨wX_l2, 0, _, _, rfl, ?_⟩
    obtain ⟨rfl, rfl⟩ := hr.2  q
    exact hK wy f (fun h => absurd h (by decide))
def sL_ifAccessed : gS := fun av es K => ∃ c wy f g x y k ans c', av = [.ref 0, .int x, .int y, .ref 99] ∧ inv c ∧ r_ifAccessed c x y k ans c' ∧ es = lwE c wy f g [] ∧ ∀ wy' f', (k = 0 → f' 0 = ans.toInt64) → K (some (.int (nI k))) (lwE c' wy' f' g [])
def rmL_ifAccessed : Room := { frames := 9, cells := 2, slots := 12, locals := 153 }
def pL_ifAccessed (K : gK) : List (Nat × gO) := [(0, oALoad 3), (1, oConst (nI 0)), (2, oALoad 0), (3, oILoad 1), (4, oILoad 2), (5, oCatch 2 12 2 12 6 2 [("java/lang/IndexOutOfBoundsException", 15, 4), ("java/lang/IllegalArgumentException", 19, 4)] sX6_ifAccessed), (8, oI2L), (9, oOutL 99), (10, oGoto 21), (13, oAStore 5 4), (15, oConst (nI 1)), (16, oRet K 2 12), (17, oAStore 5 4), (19, oConst (nI 2)), (20, oRet K 2 12), (21, oConst (nI 0)), (22, oRet K 2 12)]
set_option maxRecDepth 100000 in
theorem kL_ifAccessed {X : gX} {l : Launch} (hl : l.stackTraces = false) (hM : gM X l cL_ifAccessed RL wsL_ifAccessed rmL_ifAccessed) {K : gK} (hE : gR X K 2 12 (some .int)) (hT : gTb X [(0, 10, 13, 13), (0, 10, 17, 15)]) (hC9 : gXc X) (hnL : X.2.2.2.2.2.2.2.2.2.2.2.2.2.2.2.2 = 5) : okL X (pL_ifAccessed K) := by
  obtain ⟨p, l1, e, R, s, m, args, below, meth, c, D, cA, A, ag, ad0, Q, nL⟩ := X
  cases hnL
  refine ⟨ok_aload_n hM 3 dL_ifAccessed_0 rfl,
    ok_iconst hM dL_ifAccessed_1 rfl,
    ok_aload_n hM 0 dL_ifAccessed_2 rfl,
    ok_iload_n hM 1 dL_ifAccessed_3 rfl,
    ok_iload_n hM 2 dL_ifAccessed_4 rfl,
    ok_catch hM hT hC9 [("java/lang/IndexOutOfBoundsException", 15, 4), ("java/lang/IllegalArgumentException", 19, 4)] (List.forall_mem_cons.mpr ⟨⟨[], ⟨0, 10, 13, 13⟩, [⟨0, 10, 17, 15⟩], rfl, fun z hz => absurd hz List.not_mem_nil, rfl, by decide, (List.mem_of_getElem? (i := 1) rfl), List.mem_of_getElem? (i := 0) rfl, Nat.le_of_ble_eq_true rfl, Or.inl ⟨dL_ifAccessed_13, rfl⟩⟩, List.forall_mem_cons.mpr ⟨⟨[⟨0, 10, 13, 13⟩], ⟨0, 10, 17, 15⟩, [], rfl, fun z hz => by
        rw [List.mem_singleton] at hz
        subst hz
        exact Or.inr ⟨by decide, "java/lang/IndexOutOfBoundsException", (List.mem_of_getElem? (i := 1) rfl), List.mem_of_getElem? (i := 0) rfl⟩, rfl, by decide, (List.mem_of_getElem? (i := 2) rfl), List.mem_of_getElem? (i := 1) rfl, Nat.le_of_ble_eq_true rfl, Or.inl ⟨dL_ifAccessed_17, rfl⟩⟩, fun _ h => absurd h List.not_mem_nil⟩⟩) (ctX6_ifAccessed l hl) rfl gL_ifAccessed_X6_ifAccessed rfl rfl rfl (by decide +kernel) (by decide) dL_ifAccessed_5,
    ok_i2l hM dL_ifAccessed_8,
    ok_outL 99 (ok_last hM dL_ifAccessed_9),
    ok_goto hM 21 dL_ifAccessed_10 (by decide),
    ok_astore hM 4 dL_ifAccessed_13,
    ok_iconst hM dL_ifAccessed_15 rfl,
    ok_ret hM hE dL_ifAccessed_16,
    ok_astore hM 4 dL_ifAccessed_17,
    ok_iconst hM dL_ifAccessed_19 rfl,
    ok_ret hM hE dL_ifAccessed_20,
    ok_iconst hM dL_ifAccessed_21 rfl,
    ok_ret hM hE dL_ifAccessed_22,
    trivial⟩
set_option maxRecDepth 100000 in
theorem ctL_ifAccessed (l : Launch) (hl : l.stackTraces = false) : CtL l yL_ifAccessed wsL_ifAccessed rmL_ifAccessed 2 12 sL_ifAccessed := by
  refine ctL_of (own := RL) (cc := cL_ifAccessed) (maxL := 5) (ret := (some .int)) (hh := [(0, 10, 13, 13), (0, 10, 17, 15)]) (by decide) rfl rfl (by rintro _ _ _ ⟨c, wy, f, g, x, y, k, ans, c', rfl, hinv, hr, rfl, hK⟩; exact Nat.le_of_ble_eq_true rfl) ?_
  intro X av es K hM hE hT hC9 hnL hsp
  obtain ⟨c, wy, f, g, x, y, k, ans, c', rfl, hinv, hr, rfl, hK⟩ := hsp
  have hf := kL_ifAccessed hl hM hE hT hC9 hnL
  obtain ⟨v, n, ch, H, o, s, sf, z0, z1⟩ := c
  obtain ⟨ho, hs, hn, hch, hk, hkH, hk0, hk1⟩ := hinv
  refine wr_ok hf cut_nil 9 0 _ _ _ _ _ ?_
  refine ⟨wX v wy n ch H o s (slX sf z0 z1), _, rfl, Nat.le_of_ble_eq_true rfl, ?_⟩
  refine ⟨x, y, v, wy, n, ch, H, o, s, slX sf z0 z1, rfl, ho, hs, rfl, fun t a ht ha e0 e1 => ?_, fun q => ?_, fun p0 q => ?_⟩
  · refine ⟨wX_l2, ?_⟩
    obtain ⟨rfl, ea, rfl⟩ := hr.1 t a ht ha e0 e1
    refine ⟨rfl, _, _, f, rfl, rfl, ?_⟩
    exact hK wy _ (fun _ => by rw [ea]; exact pk_uLs)
  · refine ⟨wX_l2, 0, _, _, rfl, ?_⟩
    obtain ⟨rfl, rfl⟩ := hr.2.1  q
    exact hK wy f (fun h => absurd h (by decide))
  · refine ⟨wX_l2, 1, _, _, rfl, ?_⟩
    obtain ⟨rfl, rfl⟩ := hr.2.2 p0 q
    exact hK wy f (fun h => absurd h (by decide))
def sL_victim : gS := fun av es K => ∃ c wy f g x y k ans c', av = [.ref 0, .int x, .int y, .ref 99] ∧ inv c ∧ r_victim c x y k ans c' ∧ es = lwE c wy f g [] ∧ ∀ wy' f', (k = 0 → f' 0 = ans.toInt64) → K (some (.int (nI k))) (lwE c' wy' f' g [])
def rmL_victim : Room := { frames := 9, cells := 2, slots := 12, locals := 154 }
def pL_victim (K : gK) : List (Nat × gO) := [(0, oALoad 3), (1, oConst (nI 0)), (2, oALoad 0), (3, oILoad 1), (4, oILoad 2), (5, oCatch 2 12 2 12 6 2 [("java/lang/IndexOutOfBoundsException", 15, 4), ("java/lang/IllegalArgumentException", 19, 4)] sX6_victim), (8, oI2L), (9, oOutL 99), (10, oGoto 21), (13, oAStore 5 4), (15, oConst (nI 1)), (16, oRet K 2 12), (17, oAStore 5 4), (19, oConst (nI 2)), (20, oRet K 2 12), (21, oConst (nI 0)), (22, oRet K 2 12)]
set_option maxRecDepth 100000 in
theorem kL_victim {X : gX} {l : Launch} (hl : l.stackTraces = false) (hM : gM X l cL_victim RL wsL_victim rmL_victim) {K : gK} (hE : gR X K 2 12 (some .int)) (hT : gTb X [(0, 10, 13, 13), (0, 10, 17, 15)]) (hC9 : gXc X) (hnL : X.2.2.2.2.2.2.2.2.2.2.2.2.2.2.2.2 = 5) : okL X (pL_victim K) := by
  obtain ⟨p, l1, e, R, s, m, args, below, meth, c, D, cA, A, ag, ad0, Q, nL⟩ := X
  cases hnL
  refine ⟨ok_aload_n hM 3 dL_victim_0 rfl,
    ok_iconst hM dL_victim_1 rfl,
    ok_aload_n hM 0 dL_victim_2 rfl,
    ok_iload_n hM 1 dL_victim_3 rfl,
    ok_iload_n hM 2 dL_victim_4 rfl,
    ok_catch hM hT hC9 [("java/lang/IndexOutOfBoundsException", 15, 4), ("java/lang/IllegalArgumentException", 19, 4)] (List.forall_mem_cons.mpr ⟨⟨[], ⟨0, 10, 13, 13⟩, [⟨0, 10, 17, 15⟩], rfl, fun z hz => absurd hz List.not_mem_nil, rfl, by decide, (List.mem_of_getElem? (i := 1) rfl), List.mem_of_getElem? (i := 0) rfl, Nat.le_of_ble_eq_true rfl, Or.inl ⟨dL_victim_13, rfl⟩⟩, List.forall_mem_cons.mpr ⟨⟨[⟨0, 10, 13, 13⟩], ⟨0, 10, 17, 15⟩, [], rfl, fun z hz => by
        rw [List.mem_singleton] at hz
        subst hz
        exact Or.inr ⟨by decide, "java/lang/IndexOutOfBoundsException", (List.mem_of_getElem? (i := 1) rfl), List.mem_of_getElem? (i := 0) rfl⟩, rfl, by decide, (List.mem_of_getElem? (i := 2) rfl), List.mem_of_getElem? (i := 1) rfl, Nat.le_of_ble_eq_true rfl, Or.inl ⟨dL_victim_17, rfl⟩⟩, fun _ h => absurd h List.not_mem_nil⟩⟩) (ctX6_victim l hl) rfl gL_victim_X6_victim rfl rfl rfl (by decide +kernel) (by decide) dL_victim_5,
    ok_i2l hM dL_victim_8,
    ok_outL 99 (ok_last hM dL_victim_9),
    ok_goto hM 21 dL_victim_10 (by decide),
    ok_astore hM 4 dL_victim_13,
    ok_iconst hM dL_victim_15 rfl,
    ok_ret hM hE dL_victim_16,
    ok_astore hM 4 dL_victim_17,
    ok_iconst hM dL_victim_19 rfl,
    ok_ret hM hE dL_victim_20,
    ok_iconst hM dL_victim_21 rfl,
    ok_ret hM hE dL_victim_22,
    trivial⟩
set_option maxRecDepth 100000 in
theorem ctL_victim (l : Launch) (hl : l.stackTraces = false) : CtL l yL_victim wsL_victim rmL_victim 2 12 sL_victim := by
  refine ctL_of (own := RL) (cc := cL_victim) (maxL := 5) (ret := (some .int)) (hh := [(0, 10, 13, 13), (0, 10, 17, 15)]) (by decide) rfl rfl (by rintro _ _ _ ⟨c, wy, f, g, x, y, k, ans, c', rfl, hinv, hr, rfl, hK⟩; exact Nat.le_of_ble_eq_true rfl) ?_
  intro X av es K hM hE hT hC9 hnL hsp
  obtain ⟨c, wy, f, g, x, y, k, ans, c', rfl, hinv, hr, rfl, hK⟩ := hsp
  have hf := kL_victim hl hM hE hT hC9 hnL
  obtain ⟨v, n, ch, H, o, s, sf, z0, z1⟩ := c
  obtain ⟨ho, hs, hn, hch, hk, hkH, hk0, hk1⟩ := hinv
  refine wr_ok hf cut_nil 9 0 _ _ _ _ _ ?_
  refine ⟨wX v wy n ch H o s (slX sf z0 z1), _, rfl, Nat.le_of_ble_eq_true rfl, ?_⟩
  refine ⟨x, y, v, wy, n, ch, H, o, s, slX sf z0 z1, rfl, ho, hs, rfl, fun t a ht ha e0 e1 => ?_, fun q => ?_, fun p0 q => ?_⟩
  · refine ⟨wX_l2, ?_⟩
    obtain ⟨rfl, ea, rfl⟩ := hr.1 t a ht ha e0 e1
    refine ⟨rfl, _, _, f, rfl, rfl, ?_⟩
    exact hK wy _ (fun _ => by rw [ea]; exact pk_uLs)
  · refine ⟨wX_l2, 0, _, _, rfl, ?_⟩
    obtain ⟨rfl, rfl⟩ := hr.2.1  q
    exact hK wy f (fun h => absurd h (by decide))
  · refine ⟨wX_l2, 1, _, _, rfl, ?_⟩
    obtain ⟨rfl, rfl⟩ := hr.2.2 p0 q
    exact hK wy f (fun h => absurd h (by decide))
def sL_gain : gS := fun av es K => ∃ c wy f g x y k ans c', av = [.ref 0, .int x, .int y, .ref 99] ∧ inv c ∧ r_gain c x y k ans c' ∧ es = lwE c wy f g [] ∧ ∀ wy' f', (k = 0 → f' 0 = ans.toInt64) → K (some (.int (nI k))) (lwE c' wy' f' g [])
def rmL_gain : Room := { frames := 9, cells := 2, slots := 12, locals := 153 }
def pL_gain (K : gK) : List (Nat × gO) := [(0, oALoad 3), (1, oConst (nI 0)), (2, oALoad 0), (3, oILoad 1), (4, oILoad 2), (5, oCatch 2 12 2 12 6 2 [("java/lang/IndexOutOfBoundsException", 15, 4)] sX6_gain), (8, oI2L), (9, oOutL 99), (10, oGoto 17), (13, oAStore 5 4), (15, oConst (nI 1)), (16, oRet K 2 12), (17, oConst (nI 0)), (18, oRet K 2 12)]
set_option maxRecDepth 100000 in
theorem kL_gain {X : gX} {l : Launch} (hl : l.stackTraces = false) (hM : gM X l cL_gain RL wsL_gain rmL_gain) {K : gK} (hE : gR X K 2 12 (some .int)) (hT : gTb X [(0, 10, 13, 13)]) (hC9 : gXc X) (hnL : X.2.2.2.2.2.2.2.2.2.2.2.2.2.2.2.2 = 5) : okL X (pL_gain K) := by
  obtain ⟨p, l1, e, R, s, m, args, below, meth, c, D, cA, A, ag, ad0, Q, nL⟩ := X
  cases hnL
  refine ⟨ok_aload_n hM 3 dL_gain_0 rfl,
    ok_iconst hM dL_gain_1 rfl,
    ok_aload_n hM 0 dL_gain_2 rfl,
    ok_iload_n hM 1 dL_gain_3 rfl,
    ok_iload_n hM 2 dL_gain_4 rfl,
    ok_catch hM hT hC9 [("java/lang/IndexOutOfBoundsException", 15, 4)] (List.forall_mem_cons.mpr ⟨⟨[], ⟨0, 10, 13, 13⟩, [], rfl, fun z hz => absurd hz List.not_mem_nil, rfl, by decide, (List.mem_of_getElem? (i := 1) rfl), List.mem_of_getElem? (i := 0) rfl, Nat.le_of_ble_eq_true rfl, Or.inl ⟨dL_gain_13, rfl⟩⟩, fun _ h => absurd h List.not_mem_nil⟩) (ctX6_gain l hl) rfl gL_gain_X6_gain rfl rfl rfl (by decide +kernel) (by decide) dL_gain_5,
    ok_i2l hM dL_gain_8,
    ok_outL 99 (ok_last hM dL_gain_9),
    ok_goto hM 17 dL_gain_10 (by decide),
    ok_astore hM 4 dL_gain_13,
    ok_iconst hM dL_gain_15 rfl,
    ok_ret hM hE dL_gain_16,
    ok_iconst hM dL_gain_17 rfl,
    ok_ret hM hE dL_gain_18,
    trivial⟩
set_option maxRecDepth 100000 in
theorem ctL_gain (l : Launch) (hl : l.stackTraces = false) : CtL l yL_gain wsL_gain rmL_gain 2 12 sL_gain := by
  refine ctL_of (own := RL) (cc := cL_gain) (maxL := 5) (ret := (some .int)) (hh := [(0, 10, 13, 13)]) (by decide) rfl rfl (by rintro _ _ _ ⟨c, wy, f, g, x, y, k, ans, c', rfl, hinv, hr, rfl, hK⟩; exact Nat.le_of_ble_eq_true rfl) ?_
  intro X av es K hM hE hT hC9 hnL hsp
  obtain ⟨c, wy, f, g, x, y, k, ans, c', rfl, hinv, hr, rfl, hK⟩ := hsp
  have hf := kL_gain hl hM hE hT hC9 hnL
  obtain ⟨v, n, ch, H, o, s, sf, z0, z1⟩ := c
  obtain ⟨ho, hs, hn, hch, hk, hkH, hk0, hk1⟩ := hinv
  refine wr_ok hf cut_nil 9 0 _ _ _ _ _ ?_
  refine ⟨wX v wy n ch H o s (slX sf z0 z1), _, rfl, Nat.le_of_ble_eq_true rfl, ?_⟩
  refine ⟨x, y, v, wy, n, ch, H, o, s, slX sf z0 z1, rfl, ho, hs, rfl, fun t w ht hw e0 e1 => ?_, fun q => ?_, fun p0 q => ?_⟩
  · refine ⟨wX_l2, ?_⟩
    obtain ⟨rfl, ea, rfl⟩ := hr.1 t w ht hw e0 e1
    refine ⟨rfl, _, _, f, rfl, rfl, ?_⟩
    exact hK wy _ (fun _ => by rw [ea]; exact pk_uLs)
  · refine ⟨wX_l2, 0, _, _, rfl, ?_⟩
    obtain ⟨rfl, rfl⟩ := hr.2.1  q
    exact hK wy f (fun h => absurd h (by decide))
  · refine ⟨wX_l2, 0, _, _, rfl, ?_⟩
    obtain ⟨rfl, rfl⟩ := hr.2.2 p0 q
    exact hK wy f (fun h => absurd h (by decide))
def sL_utility : gS := fun av es K => ∃ c wy f g x y k ans c', av = [.ref 0, .int x, .int y, .ref 99] ∧ inv c ∧ r_utility c x y k ans c' ∧ es = lwE c wy f g [] ∧ ∀ wy' f', (k = 0 → f' 0 = ans.toInt64) → K (some (.int (nI k))) (lwE c' wy' f' g [])
def rmL_utility : Room := { frames := 9, cells := 2, slots := 12, locals := 153 }
def pL_utility (K : gK) : List (Nat × gO) := [(0, oALoad 3), (1, oConst (nI 0)), (2, oALoad 0), (3, oILoad 1), (4, oILoad 2), (5, oCatch 2 12 2 12 6 2 [("java/lang/IndexOutOfBoundsException", 15, 4), ("java/lang/IllegalArgumentException", 19, 4)] sX6_utility), (8, oI2L), (9, oOutL 99), (10, oGoto 21), (13, oAStore 5 4), (15, oConst (nI 1)), (16, oRet K 2 12), (17, oAStore 5 4), (19, oConst (nI 2)), (20, oRet K 2 12), (21, oConst (nI 0)), (22, oRet K 2 12)]
set_option maxRecDepth 100000 in
theorem kL_utility {X : gX} {l : Launch} (hl : l.stackTraces = false) (hM : gM X l cL_utility RL wsL_utility rmL_utility) {K : gK} (hE : gR X K 2 12 (some .int)) (hT : gTb X [(0, 10, 13, 13), (0, 10, 17, 15)]) (hC9 : gXc X) (hnL : X.2.2.2.2.2.2.2.2.2.2.2.2.2.2.2.2 = 5) : okL X (pL_utility K) := by
  obtain ⟨p, l1, e, R, s, m, args, below, meth, c, D, cA, A, ag, ad0, Q, nL⟩ := X
  cases hnL
  refine ⟨ok_aload_n hM 3 dL_utility_0 rfl,
    ok_iconst hM dL_utility_1 rfl,
    ok_aload_n hM 0 dL_utility_2 rfl,
    ok_iload_n hM 1 dL_utility_3 rfl,
    ok_iload_n hM 2 dL_utility_4 rfl,
    ok_catch hM hT hC9 [("java/lang/IndexOutOfBoundsException", 15, 4), ("java/lang/IllegalArgumentException", 19, 4)] (List.forall_mem_cons.mpr ⟨⟨[], ⟨0, 10, 13, 13⟩, [⟨0, 10, 17, 15⟩], rfl, fun z hz => absurd hz List.not_mem_nil, rfl, by decide, (List.mem_of_getElem? (i := 1) rfl), List.mem_of_getElem? (i := 0) rfl, Nat.le_of_ble_eq_true rfl, Or.inl ⟨dL_utility_13, rfl⟩⟩, List.forall_mem_cons.mpr ⟨⟨[⟨0, 10, 13, 13⟩], ⟨0, 10, 17, 15⟩, [], rfl, fun z hz => by
        rw [List.mem_singleton] at hz
        subst hz
        exact Or.inr ⟨by decide, "java/lang/IndexOutOfBoundsException", (List.mem_of_getElem? (i := 1) rfl), List.mem_of_getElem? (i := 0) rfl⟩, rfl, by decide, (List.mem_of_getElem? (i := 2) rfl), List.mem_of_getElem? (i := 1) rfl, Nat.le_of_ble_eq_true rfl, Or.inl ⟨dL_utility_17, rfl⟩⟩, fun _ h => absurd h List.not_mem_nil⟩⟩) (ctX6_utility l hl) rfl gL_utility_X6_utility rfl rfl rfl (by decide +kernel) (by decide) dL_utility_5,
    ok_i2l hM dL_utility_8,
    ok_outL 99 (ok_last hM dL_utility_9),
    ok_goto hM 21 dL_utility_10 (by decide),
    ok_astore hM 4 dL_utility_13,
    ok_iconst hM dL_utility_15 rfl,
    ok_ret hM hE dL_utility_16,
    ok_astore hM 4 dL_utility_17,
    ok_iconst hM dL_utility_19 rfl,
    ok_ret hM hE dL_utility_20,
    ok_iconst hM dL_utility_21 rfl,
    ok_ret hM hE dL_utility_22,
    trivial⟩
set_option maxRecDepth 100000 in
theorem ctL_utility (l : Launch) (hl : l.stackTraces = false) : CtL l yL_utility wsL_utility rmL_utility 2 12 sL_utility := by
  refine ctL_of (own := RL) (cc := cL_utility) (maxL := 5) (ret := (some .int)) (hh := [(0, 10, 13, 13), (0, 10, 17, 15)]) (by decide) rfl rfl (by rintro _ _ _ ⟨c, wy, f, g, x, y, k, ans, c', rfl, hinv, hr, rfl, hK⟩; exact Nat.le_of_ble_eq_true rfl) ?_
  intro X av es K hM hE hT hC9 hnL hsp
  obtain ⟨c, wy, f, g, x, y, k, ans, c', rfl, hinv, hr, rfl, hK⟩ := hsp
  have hf := kL_utility hl hM hE hT hC9 hnL
  obtain ⟨v, n, ch, H, o, s, sf, z0, z1⟩ := c
  obtain ⟨ho, hs, hn, hch, hk, hkH, hk0, hk1⟩ := hinv
  refine wr_ok hf cut_nil 9 0 _ _ _ _ _ ?_
  refine ⟨wX v wy n ch H o s (slX sf z0 z1), _, rfl, Nat.le_of_ble_eq_true rfl, ?_⟩
  refine ⟨x, y, v, wy, n, ch, H, o, s, slX sf z0 z1, rfl, ho, hs, rfl, fun t w ht hw e0 e1 => ?_, fun q => ?_, fun p0 q => ?_⟩
  · refine ⟨wX_l2, ?_⟩
    obtain ⟨rfl, ea, rfl⟩ := hr.1 t w ht hw e0 e1
    refine ⟨rfl, _, _, f, rfl, rfl, ?_⟩
    exact hK wy _ (fun _ => by rw [ea]; exact pk_uLs)
  · refine ⟨wX_l2, 0, _, _, rfl, ?_⟩
    obtain ⟨rfl, rfl⟩ := hr.2.1  q
    exact hK wy f (fun h => absurd h (by decide))
  · refine ⟨wX_l2, 1, _, _, rfl, ?_⟩
    obtain ⟨rfl, rfl⟩ := hr.2.2 p0 q
    exact hK wy f (fun h => absurd h (by decide))
def sL_target : gS := fun av es K => ∃ c wy f g x k ans c', av = [.ref 0, .int x, .ref 99] ∧ inv c ∧ r_target c x k ans c' ∧ es = lwE c wy f g [] ∧ ∀ wy' f', (k = 0 → f' 0 = ans.toInt64) → K (some (.int (nI k))) (lwE c' wy' f' g [])
def rmL_target : Room := { frames := 9, cells := 1, slots := 6, locals := 152 }
def pL_target (K : gK) : List (Nat × gO) := [(0, oALoad 2), (1, oConst (nI 0)), (2, oALoad 0), (3, oILoad 1), (4, oCatch 1 6 1 6 6 1 [("java/lang/IndexOutOfBoundsException", 13, 3)] sX6_target), (7, oI2L), (8, oOutL 99), (9, oGoto 15), (12, oAStore 4 3), (13, oConst (nI 1)), (14, oRet K 1 6), (15, oConst (nI 0)), (16, oRet K 1 6)]
set_option maxRecDepth 100000 in
theorem kL_target {X : gX} {l : Launch} (hl : l.stackTraces = false) (hM : gM X l cL_target RL wsL_target rmL_target) {K : gK} (hE : gR X K 1 6 (some .int)) (hT : gTb X [(0, 9, 12, 13)]) (hC9 : gXc X) (hnL : X.2.2.2.2.2.2.2.2.2.2.2.2.2.2.2.2 = 4) : okL X (pL_target K) := by
  obtain ⟨p, l1, e, R, s, m, args, below, meth, c, D, cA, A, ag, ad0, Q, nL⟩ := X
  cases hnL
  refine ⟨ok_aload_n hM 2 dL_target_0 rfl,
    ok_iconst hM dL_target_1 rfl,
    ok_aload_n hM 0 dL_target_2 rfl,
    ok_iload_n hM 1 dL_target_3 rfl,
    ok_catch hM hT hC9 [("java/lang/IndexOutOfBoundsException", 13, 3)] (List.forall_mem_cons.mpr ⟨⟨[], ⟨0, 9, 12, 13⟩, [], rfl, fun z hz => absurd hz List.not_mem_nil, rfl, by decide, (List.mem_of_getElem? (i := 1) rfl), List.mem_of_getElem? (i := 0) rfl, Nat.le_of_ble_eq_true rfl, Or.inr ⟨3, rfl, dL_target_12, rfl⟩⟩, fun _ h => absurd h List.not_mem_nil⟩) (ctX6_target l hl) rfl gL_target_X6_target rfl rfl rfl (by decide +kernel) (by decide) dL_target_4,
    ok_i2l hM dL_target_7,
    ok_outL 99 (ok_last hM dL_target_8),
    ok_goto hM 15 dL_target_9 (by decide),
    ok_astore_n hM 3 dL_target_12 rfl,
    ok_iconst hM dL_target_13 rfl,
    ok_ret hM hE dL_target_14,
    ok_iconst hM dL_target_15 rfl,
    ok_ret hM hE dL_target_16,
    trivial⟩
set_option maxRecDepth 100000 in
theorem ctL_target (l : Launch) (hl : l.stackTraces = false) : CtL l yL_target wsL_target rmL_target 1 6 sL_target := by
  refine ctL_of (own := RL) (cc := cL_target) (maxL := 4) (ret := (some .int)) (hh := [(0, 9, 12, 13)]) (by decide) rfl rfl (by rintro _ _ _ ⟨c, wy, f, g, x, k, ans, c', rfl, hinv, hr, rfl, hK⟩; exact Nat.le_of_ble_eq_true rfl) ?_
  intro X av es K hM hE hT hC9 hnL hsp
  obtain ⟨c, wy, f, g, x, k, ans, c', rfl, hinv, hr, rfl, hK⟩ := hsp
  have hf := kL_target hl hM hE hT hC9 hnL
  obtain ⟨v, n, ch, H, o, s, sf, z0, z1⟩ := c
  obtain ⟨ho, hs, hn, hch, hk, hkH, hk0, hk1⟩ := hinv
  refine wr_ok hf cut_nil 9 0 _ _ _ _ _ ?_
  refine ⟨wX v wy n ch H o s (slX sf z0 z1), _, rfl, Nat.le_of_ble_eq_true rfl, ?_⟩
  refine ⟨x, v, wy, n, ch, H, o, s, slX sf z0 z1, lfv v, rfl, ho, hs, lfv_ok hk, rfl, fun t ht e0 => ?_, fun q => ?_⟩
  · refine ⟨wX_l2, ?_⟩
    obtain ⟨rfl, ea, rfl⟩ := hr.1 t ht e0
    refine ⟨rfl, _, _, f, rfl, rfl, ?_⟩
    exact hK _ _ (fun _ => by rw [ea]; exact pk_uLs)
  · refine ⟨wX_l2, 0, _, _, rfl, ?_⟩
    obtain ⟨rfl, rfl⟩ := hr.2  q
    exact hK wy f (fun h => absurd h (by decide))
def sL_count : gS := fun av es K => ∃ c wy f g x y k ans c', av = [.ref 0, .int x, .int y, .ref 99] ∧ inv c ∧ r_count c x y k ans c' ∧ es = lwE c wy f g [] ∧ ∀ wy' f', (k = 0 → f' 0 = ans.toInt64) → K (some (.int (nI k))) (lwE c' wy' f' g [])
def rmL_count : Room := { frames := 9, cells := 2, slots := 12, locals := 153 }
def pL_count (K : gK) : List (Nat × gO) := [(0, oALoad 3), (1, oConst (nI 0)), (2, oALoad 0), (3, oILoad 1), (4, oILoad 2), (5, oCatch 2 12 2 12 6 2 [("java/lang/IndexOutOfBoundsException", 15, 4), ("java/lang/IllegalArgumentException", 19, 4)] sX6_count), (8, oI2L), (9, oOutL 99), (10, oGoto 21), (13, oAStore 5 4), (15, oConst (nI 1)), (16, oRet K 2 12), (17, oAStore 5 4), (19, oConst (nI 2)), (20, oRet K 2 12), (21, oConst (nI 0)), (22, oRet K 2 12)]
set_option maxRecDepth 100000 in
theorem kL_count {X : gX} {l : Launch} (hl : l.stackTraces = false) (hM : gM X l cL_count RL wsL_count rmL_count) {K : gK} (hE : gR X K 2 12 (some .int)) (hT : gTb X [(0, 10, 13, 13), (0, 10, 17, 15)]) (hC9 : gXc X) (hnL : X.2.2.2.2.2.2.2.2.2.2.2.2.2.2.2.2 = 5) : okL X (pL_count K) := by
  obtain ⟨p, l1, e, R, s, m, args, below, meth, c, D, cA, A, ag, ad0, Q, nL⟩ := X
  cases hnL
  refine ⟨ok_aload_n hM 3 dL_count_0 rfl,
    ok_iconst hM dL_count_1 rfl,
    ok_aload_n hM 0 dL_count_2 rfl,
    ok_iload_n hM 1 dL_count_3 rfl,
    ok_iload_n hM 2 dL_count_4 rfl,
    ok_catch hM hT hC9 [("java/lang/IndexOutOfBoundsException", 15, 4), ("java/lang/IllegalArgumentException", 19, 4)] (List.forall_mem_cons.mpr ⟨⟨[], ⟨0, 10, 13, 13⟩, [⟨0, 10, 17, 15⟩], rfl, fun z hz => absurd hz List.not_mem_nil, rfl, by decide, (List.mem_of_getElem? (i := 1) rfl), List.mem_of_getElem? (i := 0) rfl, Nat.le_of_ble_eq_true rfl, Or.inl ⟨dL_count_13, rfl⟩⟩, List.forall_mem_cons.mpr ⟨⟨[⟨0, 10, 13, 13⟩], ⟨0, 10, 17, 15⟩, [], rfl, fun z hz => by
        rw [List.mem_singleton] at hz
        subst hz
        exact Or.inr ⟨by decide, "java/lang/IndexOutOfBoundsException", (List.mem_of_getElem? (i := 1) rfl), List.mem_of_getElem? (i := 0) rfl⟩, rfl, by decide, (List.mem_of_getElem? (i := 2) rfl), List.mem_of_getElem? (i := 1) rfl, Nat.le_of_ble_eq_true rfl, Or.inl ⟨dL_count_17, rfl⟩⟩, fun _ h => absurd h List.not_mem_nil⟩⟩) (ctX6_count l hl) rfl gL_count_X6_count rfl rfl rfl (by decide +kernel) (by decide) dL_count_5,
    ok_i2l hM dL_count_8,
    ok_outL 99 (ok_last hM dL_count_9),
    ok_goto hM 21 dL_count_10 (by decide),
    ok_astore hM 4 dL_count_13,
    ok_iconst hM dL_count_15 rfl,
    ok_ret hM hE dL_count_16,
    ok_astore hM 4 dL_count_17,
    ok_iconst hM dL_count_19 rfl,
    ok_ret hM hE dL_count_20,
    ok_iconst hM dL_count_21 rfl,
    ok_ret hM hE dL_count_22,
    trivial⟩
set_option maxRecDepth 100000 in
theorem ctL_count (l : Launch) (hl : l.stackTraces = false) : CtL l yL_count wsL_count rmL_count 2 12 sL_count := by
  refine ctL_of (own := RL) (cc := cL_count) (maxL := 5) (ret := (some .int)) (hh := [(0, 10, 13, 13), (0, 10, 17, 15)]) (by decide) rfl rfl (by rintro _ _ _ ⟨c, wy, f, g, x, y, k, ans, c', rfl, hinv, hr, rfl, hK⟩; exact Nat.le_of_ble_eq_true rfl) ?_
  intro X av es K hM hE hT hC9 hnL hsp
  obtain ⟨c, wy, f, g, x, y, k, ans, c', rfl, hinv, hr, rfl, hK⟩ := hsp
  have hf := kL_count hl hM hE hT hC9 hnL
  obtain ⟨v, n, ch, H, o, s, sf, z0, z1⟩ := c
  obtain ⟨ho, hs, hn, hch, hk, hkH, hk0, hk1⟩ := hinv
  refine wr_ok hf cut_nil 9 0 _ _ _ _ _ ?_
  refine ⟨wX v wy n ch H o s (slX sf z0 z1), _, rfl, Nat.le_of_ble_eq_true rfl, ?_⟩
  refine ⟨x, y, v, wy, n, ch, H, o, s, slX sf z0 z1, rfl, ho, hs, rfl, fun t w ht hw e0 e1 => ?_, fun q => ?_, fun p0 q => ?_⟩
  · refine ⟨wX_l2, ?_⟩
    obtain ⟨rfl, ea, rfl⟩ := hr.1 t w ht hw e0 e1
    refine ⟨rfl, _, _, f, rfl, rfl, ?_⟩
    exact hK wy _ (fun _ => by rw [ea]; exact pk_uLs)
  · refine ⟨wX_l2, 0, _, _, rfl, ?_⟩
    obtain ⟨rfl, rfl⟩ := hr.2.1  q
    exact hK wy f (fun h => absurd h (by decide))
  · refine ⟨wX_l2, 1, _, _, rfl, ?_⟩
    obtain ⟨rfl, rfl⟩ := hr.2.2 p0 q
    exact hK wy f (fun h => absurd h (by decide))
def sL_monitored : gS := fun av es K => ∃ c wy f g x y z k ans c', av = [.ref 0, .int x, .int y, .int z, .ref 99] ∧ inv c ∧ r_monitored c x y z k ans c' ∧ es = lwE c wy f g [] ∧ ∀ wy' f', (k = 0 → f' 0 = ans.toInt64) → K (some (.int (nI k))) (lwE c' wy' f' g [])
def rmL_monitored : Room := { frames := 9, cells := 2, slots := 12, locals := 154 }
def pL_monitored (K : gK) : List (Nat × gO) := [(0, oALoad 4), (2, oConst (nI 0)), (3, oALoad 0), (4, oILoad 1), (5, oILoad 2), (6, oILoad 3), (7, oCatch 2 12 2 12 6 3 [("java/lang/IndexOutOfBoundsException", 17, 5)] sX6_monitored), (10, oI2L), (11, oOutL 99), (12, oGoto 19), (15, oAStore 6 5), (17, oConst (nI 1)), (18, oRet K 2 12), (19, oConst (nI 0)), (20, oRet K 2 12)]
set_option maxRecDepth 100000 in
theorem kL_monitored {X : gX} {l : Launch} (hl : l.stackTraces = false) (hM : gM X l cL_monitored RL wsL_monitored rmL_monitored) {K : gK} (hE : gR X K 2 12 (some .int)) (hT : gTb X [(0, 12, 15, 13)]) (hC9 : gXc X) (hnL : X.2.2.2.2.2.2.2.2.2.2.2.2.2.2.2.2 = 6) : okL X (pL_monitored K) := by
  obtain ⟨p, l1, e, R, s, m, args, below, meth, c, D, cA, A, ag, ad0, Q, nL⟩ := X
  cases hnL
  refine ⟨ok_aload hM 4 dL_monitored_0,
    ok_iconst hM dL_monitored_2 rfl,
    ok_aload_n hM 0 dL_monitored_3 rfl,
    ok_iload_n hM 1 dL_monitored_4 rfl,
    ok_iload_n hM 2 dL_monitored_5 rfl,
    ok_iload_n hM 3 dL_monitored_6 rfl,
    ok_catch hM hT hC9 [("java/lang/IndexOutOfBoundsException", 17, 5)] (List.forall_mem_cons.mpr ⟨⟨[], ⟨0, 12, 15, 13⟩, [], rfl, fun z hz => absurd hz List.not_mem_nil, rfl, by decide, (List.mem_of_getElem? (i := 1) rfl), List.mem_of_getElem? (i := 0) rfl, Nat.le_of_ble_eq_true rfl, Or.inl ⟨dL_monitored_15, rfl⟩⟩, fun _ h => absurd h List.not_mem_nil⟩) (ctX6_monitored l hl) rfl gL_monitored_X6_monitored rfl rfl rfl (by decide +kernel) (by decide) dL_monitored_7,
    ok_i2l hM dL_monitored_10,
    ok_outL 99 (ok_last hM dL_monitored_11),
    ok_goto hM 19 dL_monitored_12 (by decide),
    ok_astore hM 5 dL_monitored_15,
    ok_iconst hM dL_monitored_17 rfl,
    ok_ret hM hE dL_monitored_18,
    ok_iconst hM dL_monitored_19 rfl,
    ok_ret hM hE dL_monitored_20,
    trivial⟩
set_option maxRecDepth 100000 in
theorem ctL_monitored (l : Launch) (hl : l.stackTraces = false) : CtL l yL_monitored wsL_monitored rmL_monitored 2 12 sL_monitored := by
  refine ctL_of (own := RL) (cc := cL_monitored) (maxL := 6) (ret := (some .int)) (hh := [(0, 12, 15, 13)]) (by decide) rfl rfl (by rintro _ _ _ ⟨c, wy, f, g, x, y, z, k, ans, c', rfl, hinv, hr, rfl, hK⟩; exact Nat.le_of_ble_eq_true rfl) ?_
  intro X av es K hM hE hT hC9 hnL hsp
  obtain ⟨c, wy, f, g, x, y, z, k, ans, c', rfl, hinv, hr, rfl, hK⟩ := hsp
  have hf := kL_monitored hl hM hE hT hC9 hnL
  obtain ⟨v, n, ch, H, o, s, sf, z0, z1⟩ := c
  obtain ⟨ho, hs, hn, hch, hk, hkH, hk0, hk1⟩ := hinv
  refine wr_ok hf cut_nil 9 0 _ _ _ _ _ ?_
  refine ⟨wX v wy n ch H o s (slX sf z0 z1), _, rfl, Nat.le_of_ble_eq_true rfl, ?_⟩
  refine ⟨x, y, z, v, wy, n, ch, H, o, s, slX sf z0 z1, rfl, ho, hs, rfl, fun t q u ht hq hu e0 e1 e2 => ?_, fun q => ?_, fun p0 q => ?_, fun p0 p1 q => ?_⟩
  · refine ⟨wX_l2, ?_⟩
    obtain ⟨rfl, ea, rfl⟩ := hr.1 t q u ht hq hu e0 e1 e2
    refine ⟨rfl, _, _, f, rfl, rfl, ?_⟩
    exact hK wy _ (fun _ => by rw [ea]; exact pk_uLs)
  · refine ⟨wX_l2, 0, _, _, rfl, ?_⟩
    obtain ⟨rfl, rfl⟩ := hr.2.1 q
    exact hK wy f (fun h => absurd h (by decide))
  · refine ⟨wX_l2, 0, _, _, rfl, ?_⟩
    obtain ⟨rfl, rfl⟩ := hr.2.2.1 p0 q
    exact hK wy f (fun h => absurd h (by decide))
  · refine ⟨wX_l2, 0, _, _, rfl, ?_⟩
    obtain ⟨rfl, rfl⟩ := hr.2.2.2 p0 p1 q
    exact hK wy f (fun h => absurd h (by decide))
def sL_appendText : gS := fun av es K => ∃ c wy f g x k ans c', av = [.ref 0, .int x, .ref 99] ∧ inv c ∧ r_appendText c x k ans c' ∧ es = lwE c wy f g [] ∧ ∀ wy' f', (k = 0 → f' 0 = ans.toInt64) → K (some (.int (nI k))) (lwE c' wy' f' g [])
def rmL_appendText : Room := { frames := 8, cells := 2, slots := 12, locals := 133 }
def pL_appendText (K : gK) : List (Nat × gO) := [(0, oALoad 2), (1, oConst (nI 0)), (2, oALoad 0), (3, oILoad 1), (4, oCatch 2 12 2 12 6 1 [("java/lang/IllegalArgumentException", 13, 3), ("java/lang/IllegalStateException", 16, 3)] sX6_appendText), (7, oI2L), (8, oOutL 99), (9, oGoto 18), (12, oAStore 4 3), (13, oConst (nI 1)), (14, oRet K 2 12), (15, oAStore 4 3), (16, oConst (nI 2)), (17, oRet K 2 12), (18, oConst (nI 0)), (19, oRet K 2 12)]
set_option maxRecDepth 100000 in
theorem kL_appendText {X : gX} {l : Launch} (hl : l.stackTraces = false) (hM : gM X l cL_appendText RL wsL_appendText rmL_appendText) {K : gK} (hE : gR X K 2 12 (some .int)) (hT : gTb X [(0, 9, 12, 15), (0, 9, 15, 37)]) (hC9 : gXc X) (hnL : X.2.2.2.2.2.2.2.2.2.2.2.2.2.2.2.2 = 4) : okL X (pL_appendText K) := by
  obtain ⟨p, l1, e, R, s, m, args, below, meth, c, D, cA, A, ag, ad0, Q, nL⟩ := X
  cases hnL
  refine ⟨ok_aload_n hM 2 dL_appendText_0 rfl,
    ok_iconst hM dL_appendText_1 rfl,
    ok_aload_n hM 0 dL_appendText_2 rfl,
    ok_iload_n hM 1 dL_appendText_3 rfl,
    ok_catch hM hT hC9 [("java/lang/IllegalArgumentException", 13, 3), ("java/lang/IllegalStateException", 16, 3)] (List.forall_mem_cons.mpr ⟨⟨[], ⟨0, 9, 12, 15⟩, [⟨0, 9, 15, 37⟩], rfl, fun z hz => absurd hz List.not_mem_nil, rfl, by decide, (List.mem_of_getElem? (i := 1) rfl), List.mem_of_getElem? (i := 1) rfl, Nat.le_of_ble_eq_true rfl, Or.inr ⟨3, rfl, dL_appendText_12, rfl⟩⟩, List.forall_mem_cons.mpr ⟨⟨[⟨0, 9, 12, 15⟩], ⟨0, 9, 15, 37⟩, [], rfl, fun z hz => by
        rw [List.mem_singleton] at hz
        subst hz
        exact Or.inr ⟨by decide, "java/lang/IllegalArgumentException", (List.mem_of_getElem? (i := 1) rfl), List.mem_of_getElem? (i := 1) rfl⟩, rfl, by decide, (List.mem_of_getElem? (i := 2) rfl), List.mem_of_getElem? (i := 2) rfl, Nat.le_of_ble_eq_true rfl, Or.inr ⟨3, rfl, dL_appendText_15, rfl⟩⟩, fun _ h => absurd h List.not_mem_nil⟩⟩) (ctX6_appendText l hl) rfl gL_appendText_X6_appendText rfl rfl rfl (by decide +kernel) (by decide) dL_appendText_4,
    ok_i2l hM dL_appendText_7,
    ok_outL 99 (ok_last hM dL_appendText_8),
    ok_goto hM 18 dL_appendText_9 (by decide),
    ok_astore_n hM 3 dL_appendText_12 rfl,
    ok_iconst hM dL_appendText_13 rfl,
    ok_ret hM hE dL_appendText_14,
    ok_astore_n hM 3 dL_appendText_15 rfl,
    ok_iconst hM dL_appendText_16 rfl,
    ok_ret hM hE dL_appendText_17,
    ok_iconst hM dL_appendText_18 rfl,
    ok_ret hM hE dL_appendText_19,
    trivial⟩
set_option maxRecDepth 100000 in
theorem ctL_appendText (l : Launch) (hl : l.stackTraces = false) : CtL l yL_appendText wsL_appendText rmL_appendText 2 12 sL_appendText := by
  refine ctL_of (own := RL) (cc := cL_appendText) (maxL := 4) (ret := (some .int)) (hh := [(0, 9, 12, 15), (0, 9, 15, 37)]) (by decide) rfl rfl (by rintro _ _ _ ⟨c, wy, f, g, x, k, ans, c', rfl, hinv, hr, rfl, hK⟩; exact Nat.le_of_ble_eq_true rfl) ?_
  intro X av es K hM hE hT hC9 hnL hsp
  obtain ⟨c, wy, f, g, x, k, ans, c', rfl, hinv, hr, rfl, hK⟩ := hsp
  have hf := kL_appendText hl hM hE hT hC9 hnL
  obtain ⟨v, n, ch, H, o, s, sf, z0, z1⟩ := c
  obtain ⟨ho, hs, hn, hch, hk, hkH, hk0, hk1⟩ := hinv
  refine wr_ok hf cut_nil 9 0 _ _ _ _ _ ?_
  refine ⟨wX v wy n ch H o s (slX sf z0 z1), _, rfl, Nat.le_of_ble_eq_true rfl, ?_⟩
  refine ⟨x, v, wy, n, ch, H, o, s, slX sf z0 z1, rfl, ho, hs, hn, rfl, fun a h0 h1 h2 e0 => ?_, fun q => ?_, fun p0 q => ?_⟩
  · refine ⟨wX_l2, ?_⟩
    obtain ⟨rfl, ea, rfl⟩ := hr.1 a h0 h1 h2 e0
    refine ⟨rfl, _, _, f, rfl, rfl, ?_⟩
    exact hK wy _ (fun _ => by rw [ea]; exact pk_uLs)
  · refine ⟨wX_l2, 0, _, _, rfl, ?_⟩
    obtain ⟨rfl, rfl⟩ := hr.2.1 q
    exact hK wy f (fun h => absurd h (by decide))
  · refine ⟨wX_l2, 1, _, _, rfl, ?_⟩
    obtain ⟨rfl, rfl⟩ := hr.2.2 p0 q
    exact hK wy f (fun h => absurd h (by decide))
def sL_runText : gS := fun av es K => ∃ c wy f g k ans c', av = [.ref 0, .ref 99] ∧ inv c ∧ r_runText c k ans c' ∧ es = lwE c wy f g [] ∧ ∀ wy' f', (k = 0 → f' 0 = ans.toInt64) → K (some (.int (nI k))) (lwE c' wy' f' g [])
def rmL_runText : Room := { frames := 7, cells := 1, slots := 6, locals := 165 }
def pL_runText (K : gK) : List (Nat × gO) := [(0, oALoad 1), (1, oConst (nI 0)), (2, oALoad 0), (3, oCatch 1 6 1 6 6 0 [("java/lang/IllegalStateException", 12, 2)] sX6_runText), (6, oI2L), (7, oOutL 99), (8, oGoto 14), (11, oAStore 3 2), (12, oConst (nI 1)), (13, oRet K 1 6), (14, oConst (nI 0)), (15, oRet K 1 6)]
set_option maxRecDepth 100000 in
theorem kL_runText {X : gX} {l : Launch} (hl : l.stackTraces = false) (hM : gM X l cL_runText RL wsL_runText rmL_runText) {K : gK} (hE : gR X K 1 6 (some .int)) (hT : gTb X [(0, 8, 11, 37)]) (hC9 : gXc X) (hnL : X.2.2.2.2.2.2.2.2.2.2.2.2.2.2.2.2 = 3) : okL X (pL_runText K) := by
  obtain ⟨p, l1, e, R, s, m, args, below, meth, c, D, cA, A, ag, ad0, Q, nL⟩ := X
  cases hnL
  refine ⟨ok_aload_n hM 1 dL_runText_0 rfl,
    ok_iconst hM dL_runText_1 rfl,
    ok_aload_n hM 0 dL_runText_2 rfl,
    ok_catch hM hT hC9 [("java/lang/IllegalStateException", 12, 2)] (List.forall_mem_cons.mpr ⟨⟨[], ⟨0, 8, 11, 37⟩, [], rfl, fun z hz => absurd hz List.not_mem_nil, rfl, by decide, (List.mem_of_getElem? (i := 1) rfl), List.mem_of_getElem? (i := 2) rfl, Nat.le_of_ble_eq_true rfl, Or.inr ⟨2, rfl, dL_runText_11, rfl⟩⟩, fun _ h => absurd h List.not_mem_nil⟩) (ctX6_runText l hl) rfl gL_runText_X6_runText rfl rfl rfl (by decide +kernel) (by decide) dL_runText_3,
    ok_i2l hM dL_runText_6,
    ok_outL 99 (ok_last hM dL_runText_7),
    ok_goto hM 14 dL_runText_8 (by decide),
    ok_astore_n hM 2 dL_runText_11 rfl,
    ok_iconst hM dL_runText_12 rfl,
    ok_ret hM hE dL_runText_13,
    ok_iconst hM dL_runText_14 rfl,
    ok_ret hM hE dL_runText_15,
    trivial⟩
set_option maxRecDepth 100000 in
theorem ctL_runText (l : Launch) (hl : l.stackTraces = false) : CtL l yL_runText wsL_runText rmL_runText 1 6 sL_runText := by
  refine ctL_of (own := RL) (cc := cL_runText) (maxL := 3) (ret := (some .int)) (hh := [(0, 8, 11, 37)]) (by decide) rfl rfl (by rintro _ _ _ ⟨c, wy, f, g, k, ans, c', rfl, hinv, hr, rfl, hK⟩; exact Nat.le_of_ble_eq_true rfl) ?_
  intro X av es K hM hE hT hC9 hnL hsp
  obtain ⟨c, wy, f, g, k, ans, c', rfl, hinv, hr, rfl, hK⟩ := hsp
  have hf := kL_runText hl hM hE hT hC9 hnL
  obtain ⟨v, n, ch, H, o, s, sf, z0, z1⟩ := c
  obtain ⟨ho, hs, hn, hch, hk, hkH, hk0, hk1⟩ := hinv
  refine wr_ok hf cut_nil 9 0 _ _ _ _ _ ?_
  refine ⟨wX v wy n ch H o s (slX sf z0 z1), _, rfl, Nat.le_of_ble_eq_true rfl, ?_⟩
  refine ⟨v, wy, n, ch, H, o, s, slX sf z0 z1, lfv v, rfl, ho, hs, hn, fun j _ => hch j, fErr_rc, lfv_ok hk, rfl, fun h0 wy' => ?_, fun q => ?_⟩
  · refine ⟨wX_l2, ?_⟩
    obtain ⟨rfl, ea, rfl⟩ := hr.1 h0
    refine ⟨rfl, _, _, f, rfl, rfl, ?_⟩
    exact hK wy' _ (fun _ => by rw [ea]; exact pk_uLs)
  · refine ⟨wX_l2, 0, _, _, rfl, ?_⟩
    obtain ⟨rfl, rfl⟩ := hr.2 q
    exact hK wy f (fun h => absurd h (by decide))
def sL_undo : gS := fun av es K => ∃ c wy f g k ans c', av = [.ref 0, .ref 99] ∧ inv c ∧ r_undo c k ans c' ∧ es = lwE c wy f g [] ∧ ∀ wy' f', (k = 0 → f' 0 = ans.toInt64) → K (some (.int (nI k))) (lwE c' wy' f' g [])
def rmL_undo : Room := { frames := 7, cells := 1, slots := 6, locals := 143 }
def pL_undo (K : gK) : List (Nat × gO) := [(0, oALoad 1), (1, oConst (nI 0)), (2, oALoad 0), (3, oCatch 1 6 1 6 6 0 [("java/lang/IllegalStateException", 12, 2)] sX6_undo), (6, oI2L), (7, oOutL 99), (8, oGoto 14), (11, oAStore 3 2), (12, oConst (nI 1)), (13, oRet K 1 6), (14, oConst (nI 0)), (15, oRet K 1 6)]
set_option maxRecDepth 100000 in
theorem kL_undo {X : gX} {l : Launch} (hl : l.stackTraces = false) (hM : gM X l cL_undo RL wsL_undo rmL_undo) {K : gK} (hE : gR X K 1 6 (some .int)) (hT : gTb X [(0, 8, 11, 37)]) (hC9 : gXc X) (hnL : X.2.2.2.2.2.2.2.2.2.2.2.2.2.2.2.2 = 3) : okL X (pL_undo K) := by
  obtain ⟨p, l1, e, R, s, m, args, below, meth, c, D, cA, A, ag, ad0, Q, nL⟩ := X
  cases hnL
  refine ⟨ok_aload_n hM 1 dL_undo_0 rfl,
    ok_iconst hM dL_undo_1 rfl,
    ok_aload_n hM 0 dL_undo_2 rfl,
    ok_catch hM hT hC9 [("java/lang/IllegalStateException", 12, 2)] (List.forall_mem_cons.mpr ⟨⟨[], ⟨0, 8, 11, 37⟩, [], rfl, fun z hz => absurd hz List.not_mem_nil, rfl, by decide, (List.mem_of_getElem? (i := 1) rfl), List.mem_of_getElem? (i := 2) rfl, Nat.le_of_ble_eq_true rfl, Or.inr ⟨2, rfl, dL_undo_11, rfl⟩⟩, fun _ h => absurd h List.not_mem_nil⟩) (ctX6_undo l hl) rfl gL_undo_X6_undo rfl rfl rfl (by decide +kernel) (by decide) dL_undo_3,
    ok_i2l hM dL_undo_6,
    ok_outL 99 (ok_last hM dL_undo_7),
    ok_goto hM 14 dL_undo_8 (by decide),
    ok_astore_n hM 2 dL_undo_11 rfl,
    ok_iconst hM dL_undo_12 rfl,
    ok_ret hM hE dL_undo_13,
    ok_iconst hM dL_undo_14 rfl,
    ok_ret hM hE dL_undo_15,
    trivial⟩
set_option maxRecDepth 100000 in
theorem ctL_undo (l : Launch) (hl : l.stackTraces = false) : CtL l yL_undo wsL_undo rmL_undo 1 6 sL_undo := by
  refine ctL_of (own := RL) (cc := cL_undo) (maxL := 3) (ret := (some .int)) (hh := [(0, 8, 11, 37)]) (by decide) rfl rfl (by rintro _ _ _ ⟨c, wy, f, g, k, ans, c', rfl, hinv, hr, rfl, hK⟩; exact Nat.le_of_ble_eq_true rfl) ?_
  intro X av es K hM hE hT hC9 hnL hsp
  obtain ⟨c, wy, f, g, k, ans, c', rfl, hinv, hr, rfl, hK⟩ := hsp
  have hf := kL_undo hl hM hE hT hC9 hnL
  obtain ⟨v, n, ch, H, o, s, sf, z0, z1⟩ := c
  obtain ⟨ho, hs, hn, hch, hk, hkH, hk0, hk1⟩ := hinv
  refine wr_ok hf cut_nil 9 0 _ _ _ _ _ ?_
  refine ⟨wX v wy n ch H o s (slX sf z0 z1), _, rfl, Nat.le_of_ble_eq_true rfl, ?_⟩
  refine ⟨v, wy, n, ch, H, o, s, slX sf z0 z1, rfl, ho, hs, rfl, fun s' h0 => ?_, fun q => ?_⟩
  · refine ⟨wX_l2, ?_⟩
    obtain ⟨rfl, ea, rfl⟩ := hr.1 s' h0
    refine ⟨rfl, _, _, f, rfl, rfl, ?_⟩
    exact hK wy _ (fun _ => by rw [ea]; exact pk_uLs)
  · refine ⟨wX_l2, 0, _, _, rfl, ?_⟩
    obtain ⟨rfl, rfl⟩ := hr.2 q
    exact hK wy f (fun h => absurd h (by decide))
def sL_save : gS := fun av es K => ∃ c wy f g x k ans c', av = [.ref 0, .int x, .ref 99] ∧ inv c ∧ r_save c x k ans c' ∧ es = lwE c wy f g [] ∧ ∀ wy' f', (k = 0 → f' 0 = ans.toInt64) → K (some (.int (nI k))) (lwE c' wy' f' g [])
def rmL_save : Room := { frames := 8, cells := 1, slots := 6, locals := 132 }
def pL_save (K : gK) : List (Nat × gO) := [(0, oALoad 2), (1, oConst (nI 0)), (2, oALoad 0), (3, oILoad 1), (4, oCatch 1 6 1 6 6 1 [("java/lang/IndexOutOfBoundsException", 13, 3)] sX6_save), (7, oI2L), (8, oOutL 99), (9, oGoto 15), (12, oAStore 4 3), (13, oConst (nI 1)), (14, oRet K 1 6), (15, oConst (nI 0)), (16, oRet K 1 6)]
set_option maxRecDepth 100000 in
theorem kL_save {X : gX} {l : Launch} (hl : l.stackTraces = false) (hM : gM X l cL_save RL wsL_save rmL_save) {K : gK} (hE : gR X K 1 6 (some .int)) (hT : gTb X [(0, 9, 12, 13)]) (hC9 : gXc X) (hnL : X.2.2.2.2.2.2.2.2.2.2.2.2.2.2.2.2 = 4) : okL X (pL_save K) := by
  obtain ⟨p, l1, e, R, s, m, args, below, meth, c, D, cA, A, ag, ad0, Q, nL⟩ := X
  cases hnL
  refine ⟨ok_aload_n hM 2 dL_save_0 rfl,
    ok_iconst hM dL_save_1 rfl,
    ok_aload_n hM 0 dL_save_2 rfl,
    ok_iload_n hM 1 dL_save_3 rfl,
    ok_catch hM hT hC9 [("java/lang/IndexOutOfBoundsException", 13, 3)] (List.forall_mem_cons.mpr ⟨⟨[], ⟨0, 9, 12, 13⟩, [], rfl, fun z hz => absurd hz List.not_mem_nil, rfl, by decide, (List.mem_of_getElem? (i := 1) rfl), List.mem_of_getElem? (i := 0) rfl, Nat.le_of_ble_eq_true rfl, Or.inr ⟨3, rfl, dL_save_12, rfl⟩⟩, fun _ h => absurd h List.not_mem_nil⟩) (ctX6_save l hl) rfl gL_save_X6_save rfl rfl rfl (by decide +kernel) (by decide) dL_save_4,
    ok_i2l hM dL_save_7,
    ok_outL 99 (ok_last hM dL_save_8),
    ok_goto hM 15 dL_save_9 (by decide),
    ok_astore_n hM 3 dL_save_12 rfl,
    ok_iconst hM dL_save_13 rfl,
    ok_ret hM hE dL_save_14,
    ok_iconst hM dL_save_15 rfl,
    ok_ret hM hE dL_save_16,
    trivial⟩
set_option maxRecDepth 100000 in
theorem ctL_save (l : Launch) (hl : l.stackTraces = false) : CtL l yL_save wsL_save rmL_save 1 6 sL_save := by
  refine ctL_of (own := RL) (cc := cL_save) (maxL := 4) (ret := (some .int)) (hh := [(0, 9, 12, 13)]) (by decide) rfl rfl (by rintro _ _ _ ⟨c, wy, f, g, x, k, ans, c', rfl, hinv, hr, rfl, hK⟩; exact Nat.le_of_ble_eq_true rfl) ?_
  intro X av es K hM hE hT hC9 hnL hsp
  obtain ⟨c, wy, f, g, x, k, ans, c', rfl, hinv, hr, rfl, hK⟩ := hsp
  have hf := kL_save hl hM hE hT hC9 hnL
  obtain ⟨v, n, ch, H, o, s, sf, z0, z1⟩ := c
  obtain ⟨ho, hs, hn, hch, hk, hkH, hk0, hk1⟩ := hinv
  refine wr_ok hf cut_nil 9 0 _ _ _ _ _ ?_
  refine ⟨wX v wy n ch H o s (slX sf z0 z1), _, rfl, Nat.le_of_ble_eq_true rfl, ?_⟩
  refine ⟨x, v, wy, n, ch, H, o, s, sf, z0, z1, rfl, ho, hs, rfl, fun q hq e0 => ?_, fun q => ?_⟩
  · refine ⟨wX_l2, ?_⟩
    obtain ⟨rfl, ea, rfl⟩ := hr.1 q hq e0
    refine ⟨rfl, _, _, f, rfl, rfl, ?_⟩
    exact hK wy _ (fun _ => by rw [ea]; exact pk_uLs)
  · refine ⟨wX_l2, 0, _, _, rfl, ?_⟩
    obtain ⟨rfl, rfl⟩ := hr.2 q
    exact hK wy f (fun h => absurd h (by decide))
def sL_restore : gS := fun av es K => ∃ c wy f g x k ans c', av = [.ref 0, .int x, .ref 99] ∧ inv c ∧ r_restore c x k ans c' ∧ es = lwE c wy f g [] ∧ ∀ wy' f', (k = 0 → f' 0 = ans.toInt64) → K (some (.int (nI k))) (lwE c' wy' f' g [])
def rmL_restore : Room := { frames := 8, cells := 2, slots := 12, locals := 144 }
def pL_restore (K : gK) : List (Nat × gO) := [(0, oALoad 2), (1, oConst (nI 0)), (2, oALoad 0), (3, oILoad 1), (4, oCatch 2 12 2 12 6 1 [("java/lang/IndexOutOfBoundsException", 13, 3), ("java/lang/IllegalStateException", 16, 3)] sX6_restore), (7, oI2L), (8, oOutL 99), (9, oGoto 18), (12, oAStore 4 3), (13, oConst (nI 1)), (14, oRet K 2 12), (15, oAStore 4 3), (16, oConst (nI 2)), (17, oRet K 2 12), (18, oConst (nI 0)), (19, oRet K 2 12)]
set_option maxRecDepth 100000 in
theorem kL_restore {X : gX} {l : Launch} (hl : l.stackTraces = false) (hM : gM X l cL_restore RL wsL_restore rmL_restore) {K : gK} (hE : gR X K 2 12 (some .int)) (hT : gTb X [(0, 9, 12, 13), (0, 9, 15, 37)]) (hC9 : gXc X) (hnL : X.2.2.2.2.2.2.2.2.2.2.2.2.2.2.2.2 = 4) : okL X (pL_restore K) := by
  obtain ⟨p, l1, e, R, s, m, args, below, meth, c, D, cA, A, ag, ad0, Q, nL⟩ := X
  cases hnL
  refine ⟨ok_aload_n hM 2 dL_restore_0 rfl,
    ok_iconst hM dL_restore_1 rfl,
    ok_aload_n hM 0 dL_restore_2 rfl,
    ok_iload_n hM 1 dL_restore_3 rfl,
    ok_catch hM hT hC9 [("java/lang/IndexOutOfBoundsException", 13, 3), ("java/lang/IllegalStateException", 16, 3)] (List.forall_mem_cons.mpr ⟨⟨[], ⟨0, 9, 12, 13⟩, [⟨0, 9, 15, 37⟩], rfl, fun z hz => absurd hz List.not_mem_nil, rfl, by decide, (List.mem_of_getElem? (i := 1) rfl), List.mem_of_getElem? (i := 0) rfl, Nat.le_of_ble_eq_true rfl, Or.inr ⟨3, rfl, dL_restore_12, rfl⟩⟩, List.forall_mem_cons.mpr ⟨⟨[⟨0, 9, 12, 13⟩], ⟨0, 9, 15, 37⟩, [], rfl, fun z hz => by
        rw [List.mem_singleton] at hz
        subst hz
        exact Or.inr ⟨by decide, "java/lang/IndexOutOfBoundsException", (List.mem_of_getElem? (i := 1) rfl), List.mem_of_getElem? (i := 2) rfl⟩, rfl, by decide, (List.mem_of_getElem? (i := 2) rfl), List.mem_of_getElem? (i := 2) rfl, Nat.le_of_ble_eq_true rfl, Or.inr ⟨3, rfl, dL_restore_15, rfl⟩⟩, fun _ h => absurd h List.not_mem_nil⟩⟩) (ctX6_restore l hl) rfl gL_restore_X6_restore rfl rfl rfl (by decide +kernel) (by decide) dL_restore_4,
    ok_i2l hM dL_restore_7,
    ok_outL 99 (ok_last hM dL_restore_8),
    ok_goto hM 18 dL_restore_9 (by decide),
    ok_astore_n hM 3 dL_restore_12 rfl,
    ok_iconst hM dL_restore_13 rfl,
    ok_ret hM hE dL_restore_14,
    ok_astore_n hM 3 dL_restore_15 rfl,
    ok_iconst hM dL_restore_16 rfl,
    ok_ret hM hE dL_restore_17,
    ok_iconst hM dL_restore_18 rfl,
    ok_ret hM hE dL_restore_19,
    trivial⟩
set_option maxRecDepth 100000 in
theorem ctL_restore (l : Launch) (hl : l.stackTraces = false) : CtL l yL_restore wsL_restore rmL_restore 2 12 sL_restore := by
  refine ctL_of (own := RL) (cc := cL_restore) (maxL := 4) (ret := (some .int)) (hh := [(0, 9, 12, 13), (0, 9, 15, 37)]) (by decide) rfl rfl (by rintro _ _ _ ⟨c, wy, f, g, x, k, ans, c', rfl, hinv, hr, rfl, hK⟩; exact Nat.le_of_ble_eq_true rfl) ?_
  intro X av es K hM hE hT hC9 hnL hsp
  obtain ⟨c, wy, f, g, x, k, ans, c', rfl, hinv, hr, rfl, hK⟩ := hsp
  have hf := kL_restore hl hM hE hT hC9 hnL
  obtain ⟨v, n, ch, H, o, s, sf, z0, z1⟩ := c
  obtain ⟨ho, hs, hn, hch, hk, hkH, hk0, hk1⟩ := hinv
  refine wr_ok hf cut_nil 9 0 _ _ _ _ _ ?_
  refine ⟨wX v wy n ch H o s (slX sf z0 z1), _, rfl, Nat.le_of_ble_eq_true rfl, ?_⟩
  refine ⟨x, v, wy, n, ch, H, o, s, sf, z0, z1, rfl, ho, hs, rfl, fun q hq e0 h0 => ?_, fun q => ?_, fun q hq e0 h0 => ?_⟩
  · refine ⟨wX_l2, ?_⟩
    obtain ⟨rfl, ea, rfl⟩ := hr.1 q hq e0 h0
    refine ⟨rfl, _, _, f, rfl, rfl, ?_⟩
    exact hK wy _ (fun _ => by rw [ea]; exact pk_uLs)
  · refine ⟨wX_l2, 0, _, _, rfl, ?_⟩
    obtain ⟨rfl, rfl⟩ := hr.2.1 q
    exact hK wy f (fun h => absurd h (by decide))
  · refine ⟨wX_l2, 1, _, _, rfl, ?_⟩
    obtain ⟨rfl, rfl⟩ := hr.2.2 q hq e0 h0
    exact hK wy f (fun h => absurd h (by decide))
def sL_hitRate : gS := fun av es K => ∃ c wy f g x k ans c', av = [.ref 0, .int x, .ref 100] ∧ inv c ∧ r_hitRate c x k ans c' ∧ es = lwE c wy f g [] ∧ ∀ wy' g', (k = 0 → g' 0 = ans) → K (some (.int (nI k))) (lwE c' wy' f g' [])
def rmL_hitRate : Room := { frames := 9, cells := 1, slots := 6, locals := 155 }
def pL_hitRate (K : gK) : List (Nat × gO) := [(0, oALoad 2), (1, oConst (nI 0)), (2, oALoad 0), (3, oILoad 1), (4, oCatch 1 6 1 6 6 1 [("java/lang/IndexOutOfBoundsException", 12, 3)] sX6_hitRate), (7, oOutD 100), (8, oGoto 14), (11, oAStore 4 3), (12, oConst (nI 1)), (13, oRet K 1 6), (14, oConst (nI 0)), (15, oRet K 1 6)]
set_option maxRecDepth 100000 in
theorem kL_hitRate {X : gX} {l : Launch} (hl : l.stackTraces = false) (hM : gM X l cL_hitRate RL wsL_hitRate rmL_hitRate) {K : gK} (hE : gR X K 1 6 (some .int)) (hT : gTb X [(0, 8, 11, 13)]) (hC9 : gXc X) (hnL : X.2.2.2.2.2.2.2.2.2.2.2.2.2.2.2.2 = 4) : okL X (pL_hitRate K) := by
  obtain ⟨p, l1, e, R, s, m, args, below, meth, c, D, cA, A, ag, ad0, Q, nL⟩ := X
  cases hnL
  refine ⟨ok_aload_n hM 2 dL_hitRate_0 rfl,
    ok_iconst hM dL_hitRate_1 rfl,
    ok_aload_n hM 0 dL_hitRate_2 rfl,
    ok_iload_n hM 1 dL_hitRate_3 rfl,
    ok_catch hM hT hC9 [("java/lang/IndexOutOfBoundsException", 12, 3)] (List.forall_mem_cons.mpr ⟨⟨[], ⟨0, 8, 11, 13⟩, [], rfl, fun z hz => absurd hz List.not_mem_nil, rfl, by decide, (List.mem_of_getElem? (i := 1) rfl), List.mem_of_getElem? (i := 0) rfl, Nat.le_of_ble_eq_true rfl, Or.inr ⟨3, rfl, dL_hitRate_11, rfl⟩⟩, fun _ h => absurd h List.not_mem_nil⟩) (ctX6_hitRate l hl) rfl gL_hitRate_X6_hitRate rfl rfl rfl (by decide +kernel) (by decide) dL_hitRate_4,
    ok_outD 100 (ok_dast hM dL_hitRate_7),
    ok_goto hM 14 dL_hitRate_8 (by decide),
    ok_astore_n hM 3 dL_hitRate_11 rfl,
    ok_iconst hM dL_hitRate_12 rfl,
    ok_ret hM hE dL_hitRate_13,
    ok_iconst hM dL_hitRate_14 rfl,
    ok_ret hM hE dL_hitRate_15,
    trivial⟩
set_option maxRecDepth 100000 in
theorem ctL_hitRate (l : Launch) (hl : l.stackTraces = false) : CtL l yL_hitRate wsL_hitRate rmL_hitRate 1 6 sL_hitRate := by
  refine ctL_of (own := RL) (cc := cL_hitRate) (maxL := 4) (ret := (some .int)) (hh := [(0, 8, 11, 13)]) (by decide) rfl rfl (by rintro _ _ _ ⟨c, wy, f, g, x, k, ans, c', rfl, hinv, hr, rfl, hK⟩; exact Nat.le_of_ble_eq_true rfl) ?_
  intro X av es K hM hE hT hC9 hnL hsp
  obtain ⟨c, wy, f, g, x, k, ans, c', rfl, hinv, hr, rfl, hK⟩ := hsp
  have hf := kL_hitRate hl hM hE hT hC9 hnL
  obtain ⟨v, n, ch, H, o, s, sf, z0, z1⟩ := c
  obtain ⟨ho, hs, hn, hch, hk, hkH, hk0, hk1⟩ := hinv
  refine wr_ok hf cut_nil 9 0 _ _ _ _ _ ?_
  refine ⟨wX v wy n ch H o s (slX sf z0 z1), _, rfl, Nat.le_of_ble_eq_true rfl, ?_⟩
  refine ⟨x, v, wy, n, ch, H, o, s, slX sf z0 z1, rfl, ho, hs, rfl, fun t ht e0 => ?_, fun q => ?_⟩
  · refine ⟨wX_l2, ?_⟩
    obtain ⟨rfl, ea, rfl⟩ := hr.1 t ht e0
    refine ⟨rfl, lwO (wX v wy n ch H o s (slX sf z0 z1)) f, _, g, rfl, rfl, ?_⟩
    exact hK wy _ (fun _ => by rw [ea]; exact if_pos rfl)
  · refine ⟨wX_l2, 0, _, _, rfl, ?_⟩
    obtain ⟨rfl, rfl⟩ := hr.2 q
    exact hK wy g (fun h => absurd h (by decide))
end LH
