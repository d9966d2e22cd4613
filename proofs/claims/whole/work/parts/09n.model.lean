/-! PartitionedCacheModel: an access. -/
section MM12
variable {v : gV} {R : Nat → Int32}
theorem vK_of {w : gV} (h : vK v) (e1 : vOw w = vOw v) (e2 : vHd w = vHd v) (e3 : vLe w = vLe v) (e4 : vEp w = vEp v) : vK w := by
  unfold vK
  rw [e1, e2, e3, e4]
  exact h
theorem rl_of {w : gV} (h : rl v R) (e1 : vOw w = vOw v) (e2 : vHd w = vHd v) (e3 : vSt w = vSt v) (e4 : vAd w = vAd v) (e5 : vGa w = vGa v) (e6 : vLe w = vLe v) (e7 : vCo w = vCo v) (e8 : vEp w = vEp v) (e9 : vAc w = vAc v) : rl w R := by
  unfold rl lsR
  rw [e1, e2, e3, e4, e5, e6, e7, e8, e9]
  exact h
theorem vK_mv (hk : vK v) (L : Nat → Nat) : vK (mvV L v) := by
  refine ⟨fun w hw => ?_, hk.2.1, hk.2.2.1, hk.2.2.2⟩
  show ∃ t, t < 4 ∧ mvO L v w = nI t
  have hm := amax_le (mvD L v) 3
  cases hp : mvW L v with
  | none =>
    have e : mvO L v = vOw v := by unfold mvO; rw [hp]
    rw [e]
    exact hk.1 w hw
  | some p =>
    have e : mvO L v = upd (vOw v) p (nI (amax (mvD L v) 3)) := by unfold mvO; rw [hp]
    rw [e]
    unfold upd
    split
    · exact ⟨_, by omega, rfl⟩
    · exact hk.1 w hw
theorem vK_br (hk : vK v) {t a : Nat} (ht : t < 4) (ha : a < 256) : vK (brV v t a) := by
  cases hp : ptP v t a with
  | none =>
    have e : brV v t a = v := by unfold brV; rw [hp]
    rw [e]
    exact hk
  | some p =>
    have e : brV v t a = brQ v t a p := by unfold brV; rw [hp]
    rw [e]
    refine ⟨hk.1, fun q hq => ?_, hk.2.2.1, hk.2.2.2⟩
    show upd (vHd v) p (nI t * nI 256 + nI a) q = -1 ∨ ∃ c, c < 1024 ∧ upd (vHd v) p (nI t * nI 256 + nI a) q = nI c
    unfold upd
    split
    · exact Or.inr ⟨t * 256 + a, by omega, by rw [pk_mul, nI_add]⟩
    · exact hk.2.1 q hq
theorem vK_acB (hk : vK v) {t a : Nat} (ht : t < 4) (ha : a < 256) : vK (acB v t a) := by
  have h0 : vK (acA v t a) := vK_of hk rfl rfl rfl rfl
  unfold acB
  by_cases c : acR v t a = 1
  · rw [if_pos c]
    exact vK_of h0 rfl rfl rfl rfl
  · rw [if_neg c]
    by_cases c2 : acR v t a = 0
    · rw [if_pos c2]
      exact vK_br h0 ht ha
    · rw [if_neg c2]
      exact h0
theorem vK_ac (hk : vK v) (L : Nat → Nat) {t a : Nat} (ht : t < 4) (ha : a < 256) : vK (acV L v t a) := by
  have h := vK_acB hk ht ha
  unfold acV epV
  generalize acB v t a = w at h
  by_cases c : ¬ vEp w = 0 ∧ vAc w - vAc w / vEp w * vEp w = 0
  · rw [if_pos c]
    exact vK_of (vK_mv h L) rfl rfl rfl rfl
  · rw [if_neg c]
    exact h
theorem rsl_1 {ow hd : Nat → Int32} {t : Int32} {a : Nat} (h : rsl ow hd t a = 1) : fF hd (t * nI 256 + nI a) (a % 4 * 8) < 8 := by
  unfold rsl at h
  by_cases c : fF hd (t * nI 256 + nI a) (a % 4 * 8) < 8
  · exact c
  · rw [if_neg c] at h
    by_cases d : fOwn ow t = 0
    · rw [if_pos d] at h
      exact absurd h (by decide)
    · rw [if_neg d] at h
      exact absurd h (by decide)
theorem rsl_0 {ow hd : Nat → Int32} {t : Int32} {a : Nat} (h : rsl ow hd t a = 0) : ¬ fOwn ow t = 0 := by
  unfold rsl at h
  by_cases c : fF hd (t * nI 256 + nI a) (a % 4 * 8) < 8
  · rw [if_pos c] at h
    exact absurd h (by decide)
  · rw [if_neg c] at h
    by_cases d : fOwn ow t = 0
    · rw [if_pos d] at h
      exact absurd h (by decide)
    · exact d
theorem ptf_sm {ow hd st : Nat → Int32} {t : Int32} {fs : Nat} : ∀ (f w o : Nat), ¬ ptf ow hd st t fs f w (some o) = none
  | 0, _, _ => fun h => by cases h
  | f + 1, w, o => by
    unfold ptf
    split
    · split
      · exact fun h => by cases h
      · exact ptf_sm f (w + 1) _
    · exact ptf_sm f (w + 1) o
theorem ptf_none {ow hd st : Nat → Int32} {t : Int32} {fs : Nat} : ∀ (f w : Nat), ptf ow hd st t fs f w none = none → ∀ u, w ≤ u → u < w + f → ¬ ow u = t
  | 0, w, _, u, h1, h2 => absurd h2 (by omega)
  | f + 1, w, h, u, h1, h2 => by
    unfold ptf at h
    split at h
    · split at h
      · cases h
      · exact absurd h (ptf_sm f (w + 1) _)
    · rename_i c
      by_cases hu : u = w
      · rw [hu]
        exact c
      · exact ptf_none f (w + 1) h u (by omega) (by omega)
theorem pt_some {t a : Nat} (h0 : acR v t a = 0) : ∃ p, p < 32 ∧ ptP v t a = some p := by
  have hno : ¬ fOwn (vOw v) (nI t) = 0 := rsl_0 h0
  cases hp : ptP v t a with
  | none =>
    refine absurd (cnt_0 (fun j hj => ?_)) hno
    have := ptf_none 8 0 hp j (by omega) (by omega)
    simpa using this
  | some p => exact ⟨p, ptf_lt (by omega) 8 0 none p (by omega) (fun q hq => by cases hq) hp, rfl⟩
theorem rl_co1 (h : rl v R) {i : Nat} (hi : i < 16) : rl (vOw v, vHd v, vSt v, vAd v, vGa v, vLe v, upd (vCo v) i (vCo v i + nI 1), vEp v, vAc v) (upd R (190 + i) (R (190 + i) + nI 1)) := by
  have e : R (190 + i) = vCo v i := h.2.2.2.2.2.2.2.2 i hi
  rw [e]
  exact rl_co h hi
abbrev acW (v : gV) (t a : Nat) : gV := (vOw v, vHd v, vSt v, ntAd v t a, ntGa v t a, vLe v, vCo v, vEp v, vAc v + nI 1)
theorem rl_hit0 {ow hd st ad ga le co : Nat → Int32} {ep ac : Int32} {i pl : Nat} (h : rl (ow, hd, st, ad, ga, le, co, ep, ac) R) (hp : pl < 32) (hi : i < 16) : rl (ow, hd, upd st pl ac, ad, ga, le, upd co i (co i + nI 1), ep, ac) (upd (upd R (40 + pl) (R 189)) (190 + i) (upd R (40 + pl) (R 189) (190 + i) + nI 1)) := by
  have e : R 189 = ac := h.2.2.2.2.2.2.2.1
  rw [e]
  exact rl_co1 (rl_st h hp) hi
theorem rl_miss0 {ow hd st ad ga le co : Nat → Int32} {ep ac : Int32} {i p t a : Nat} (h : rl (ow, hd, st, ad, ga, le, co, ep, ac) R) (hp : p < 32) (hi : i < 16) (hi3 : ¬ i % 4 = 3) : rl (ow, upd hd p (nI t * nI 256 + nI a), upd st p ac, ad, ga, le, evC hd p 4 (upd co i (co i + nI 1)), ep, ac) (upd (puR R t a p) (190 + i) (puR R t a p (190 + i) + nI 1)) := by
  have h3 := rl_co1 (rl_pu (t := t) (a := a) h hp) hi
  rw [evC_co hi3]
  exact h3
theorem acB_hit {t a : Nat} (h1 : acR v t a = 1) : acB v t a = (vOw v, vHd v, upd (vSt v) (a % 4 * 8 + fF (vHd v) (nI t * nI 256 + nI a) (a % 4 * 8)) (vAc v + nI 1), ntAd v t a, ntGa v t a, vLe v, upd (vCo v) (t * 4 + acR v t a) (vCo v (t * 4 + acR v t a) + nI 1), vEp v, vAc v + nI 1) := by
  have hi : fF (vHd v) (nI t * nI 256 + nI a) (a % 4 * 8) < 8 := rsl_1 h1
  have e : rnV (acA v t a) t a = (vOw v, vHd v, (if fF (vHd v) (nI t * nI 256 + nI a) (a % 4 * 8) < 8 then upd (vSt v) (a % 4 * 8 + fF (vHd v) (nI t * nI 256 + nI a) (a % 4 * 8)) (vAc v + nI 1) else vSt v), ntAd v t a, ntGa v t a, vLe v, upd (vCo v) (t * 4 + acR v t a) (vCo v (t * 4 + acR v t a) + nI 1), vEp v, vAc v + nI 1) := by with_reducible rfl
  unfold acB
  rw [if_pos h1, e, if_pos hi]
theorem acB_miss {t a p : Nat} (h0 : acR v t a = 0) (hp : ptP v t a = some p) : acB v t a = (vOw v, upd (vHd v) p (nI t * nI 256 + nI a), upd (vSt v) p (vAc v + nI 1), ntAd v t a, ntGa v t a, vLe v, evC (vHd v) p 4 (upd (vCo v) (t * 4 + acR v t a) (vCo v (t * 4 + acR v t a) + nI 1)), vEp v, vAc v + nI 1) := by
  have e1 : ptP (acA v t a) t a = some p := by
    unfold ptP at hp ⊢
    with_reducible exact hp
  unfold acB
  rw [if_neg (by omega), if_pos h0]
  unfold brV
  rw [e1]
theorem acB_by {t a : Nat} (h2 : acR v t a = 2) : acB v t a = (vOw v, vHd v, vSt v, ntAd v t a, ntGa v t a, vLe v, upd (vCo v) (t * 4 + acR v t a) (vCo v (t * 4 + acR v t a) + nI 1), vEp v, vAc v + nI 1) := by
  unfold acB
  rw [if_neg (by omega), if_neg (by omega)]
theorem pl_lt (a : Nat) {i : Nat} (h : i < 8) : a % 4 * 8 + i < 32 := by omega
theorem co_lt {t i : Nat} (ht : t < 4) (h : i ≤ 2) : t * 4 + i < 16 ∧ ¬ (t * 4 + i) % 4 = 3 := by omega
theorem rl_hit {t a : Nat} (ht : t < 4) (h : rl (acW v t a) R) (h1 : acR v t a = 1) : rl (acB v t a) (upd (upd R (40 + (a % 4 * 8 + fF (vHd v) (nI t * nI 256 + nI a) (a % 4 * 8))) (R 189)) (190 + (t * 4 + acR v t a)) (upd R (40 + (a % 4 * 8 + fF (vHd v) (nI t * nI 256 + nI a) (a % 4 * 8))) (R 189) (190 + (t * 4 + acR v t a)) + nI 1)) := by
  rw [acB_hit h1]
  exact rl_hit0 h (pl_lt a (rsl_1 h1)) (co_lt ht (rsl_le _ _ _ _)).1
theorem rl_miss {t a p : Nat} (ht : t < 4) (h : rl (acW v t a) R) (h0 : acR v t a = 0) (hp : ptP v t a = some p) (hp32 : p < 32) : rl (acB v t a) (upd (puR R t a p) (190 + (t * 4 + acR v t a)) (puR R t a p (190 + (t * 4 + acR v t a)) + nI 1)) := by
  rw [acB_miss h0 hp]
  exact rl_miss0 h hp32 (co_lt ht (rsl_le _ _ _ _)).1 (co_lt ht (rsl_le _ _ _ _)).2
theorem rl_by {t a : Nat} (ht : t < 4) (h : rl (acW v t a) R) (h2 : acR v t a = 2) : rl (acB v t a) (upd R (190 + (t * 4 + acR v t a)) (R (190 + (t * 4 + acR v t a)) + nI 1)) := by
  rw [acB_by h2]
  exact rl_co1 h (co_lt ht (rsl_le _ _ _ _)).1
def sX7_visits : gS := fun av es K => ∃ x y t a v L R P S hs tg bf st ln at0 nu th r, av = [.ref 0, .int x, .int y] ∧ x = nI t ∧ y = nI a ∧ t < 4 ∧ a < 256 ∧ vK v ∧ (∀ t, t < 4 → vLe v t = nI (L t) ∧ L t ≤ 2) ∧ rl v R ∧ es = mdW R P S hs tg bf st ln at0 nu th r ∧ ∀ R' tg', rl (acV L v t a) R' → K (some (.int (nI (acR v t a)))) (mdW R' P S hs tg' bf st ln at0 nu th r)
def rmX7_visits : Room := { frames := 4, cells := 0, slots := 0, locals := 99 }
def pX7_visits (K : gK) : List (Nat × gO) := [(0, oFR 7 (oALoad 0)), (1, oILoad 1), (2, oILoad 2), (3, oCallV0 0 0 7 2 sX7_watch), (6, oFR 7 (oALoad 0)), (7, oGet 7 0), (10, oConst (nI 189)), (13, oDup2), (14, oIALd 0), (15, oConst (nI 1)), (16, oAdd), (17, oIASt), (18, oFR 7 (oALoad 0)), (19, oILoad 1), (20, oILoad 2), (21, oCallV0 0 0 7 2 sX7_wouldBe), (24, oFR 7 (oIStore 5 3)), (25, oFR 7 (oILoad 3)), (26, oConst (nI 1)), (27, oICmp_ne 55), (30, oALoad 0), (31, oGet 7 0), (34, oConst (nI 40)), (36, oALoad 0), (37, oILoad 1), (38, oILoad 2), (39, oCallV0 0 0 7 2 sX7_find), (42, oAdd), (43, oFR 7 (oALoad 0)), (44, oGet 7 0), (47, oConst (nI 189)), (50, oIALd 0), (51, oIASt), (52, oGoto 65), (55, oFR 7 (oILoad 3)), (56, oIf_ne 65), (59, oALoad 0), (60, oILoad 1), (61, oILoad 2), (62, oCallV0 0 0 7 2 sX7_put), (65, oFR 7 (oALoad 0)), (66, oGet 7 0), (69, oConst (nI 190)), (72, oConst (nI 4)), (73, oILoad 1), (74, oMul), (75, oAdd), (76, oILoad 3), (77, oAdd), (78, oDup2), (79, oIALd 0), (80, oConst (nI 1)), (81, oAdd), (82, oIASt), (83, oFR 7 (oALoad 0)), (84, oGet 7 0), (87, oConst (nI 188)), (90, oIALd 0), (91, oIf_le 125), (94, oALoad 0), (95, oGet 7 0), (98, oConst (nI 189)), (101, oIALd 0), (102, oALoad 0), (103, oGet 7 0), (106, oConst (nI 188)), (109, oIALd 0), (110, oRem), (111, oIf_ne 125), (114, oALoad 0), (115, oCallV0 0 0 7 0 sX7_move), (118, oFR 7 (oALoad 0)), (119, oCallV0 0 0 7 0 sX7_halve), (122, oAdd), (123, oFR 7 (oIStore 5 4)), (125, oFR 7 (oILoad 3)), (126, oRet K 0 0)]
set_option maxRecDepth 100000 in
theorem kX7_visits {X : gX} {l : Launch} (hM : gM X l cX7_visits RX7 wsX7_visits rmX7_visits) {K : gK} (hE : gR X K 0 0 (some .int)) (hnL : X.2.2.2.2.2.2.2.2.2.2.2.2.2.2.2.2 = 5) : okL X (pX7_visits K) := by
  obtain ⟨p, l1, e, R, s, m, args, below, meth, c, D, cA, A, ag, ad0, Q, nL⟩ := X
  cases hnL
  refine ⟨ok_FR (ok_aload_n hM 0 dX7_visits_0 rfl),
    ok_iload_n hM 1 dX7_visits_1 rfl,
    ok_iload_n hM 2 dX7_visits_2 rfl,
    ok_callV0 hM (ctX7_watch l) rfl gX7_visits_X7_watch rfl rfl rfl (by decide +kernel) (by decide) dX7_visits_3,
    ok_FR (ok_aload_n hM 0 dX7_visits_6 rfl),
    ok_get (C := RX7) (T := TX7) (Nf := 11) hM (fun _ h => List.mem_cons_of_mem _ (List.mem_append_right _ h)) rfl 0 (by decide) (List.mem_of_getElem? (i := 1) rfl) rfl dX7_visits_7,
    ok_sipush hM dX7_visits_10 rfl,
    ok_dup2 hM dX7_visits_13,
    ok_iald hM dX7_visits_14,
    ok_iconst hM dX7_visits_15 rfl,
    ok_iadd hM dX7_visits_16,
    ok_iast hM dX7_visits_17,
    ok_FR (ok_aload_n hM 0 dX7_visits_18 rfl),
    ok_iload_n hM 1 dX7_visits_19 rfl,
    ok_iload_n hM 2 dX7_visits_20 rfl,
    ok_callV0 hM (ctX7_wouldBe l) rfl gX7_visits_X7_wouldBe rfl rfl rfl (by decide +kernel) (by decide) dX7_visits_21,
    ok_FR (ok_istore_n hM 3 dX7_visits_24 rfl),
    ok_FR (ok_iload_n hM 3 dX7_visits_25 rfl),
    ok_iconst hM dX7_visits_26 rfl,
    ok_icmp_ne hM 55 dX7_visits_27 (by decide),
    ok_aload_n hM 0 dX7_visits_30 rfl,
    ok_get (C := RX7) (T := TX7) (Nf := 11) hM (fun _ h => List.mem_cons_of_mem _ (List.mem_append_right _ h)) rfl 0 (by decide) (List.mem_of_getElem? (i := 1) rfl) rfl dX7_visits_31,
    ok_bipush hM dX7_visits_34 rfl,
    ok_aload_n hM 0 dX7_visits_36 rfl,
    ok_iload_n hM 1 dX7_visits_37 rfl,
    ok_iload_n hM 2 dX7_visits_38 rfl,
    ok_callV0 hM (ctX7_find l) rfl gX7_visits_X7_find rfl rfl rfl (by decide +kernel) (by decide) dX7_visits_39,
    ok_iadd hM dX7_visits_42,
    ok_FR (ok_aload_n hM 0 dX7_visits_43 rfl),
    ok_get (C := RX7) (T := TX7) (Nf := 11) hM (fun _ h => List.mem_cons_of_mem _ (List.mem_append_right _ h)) rfl 0 (by decide) (List.mem_of_getElem? (i := 1) rfl) rfl dX7_visits_44,
    ok_sipush hM dX7_visits_47 rfl,
    ok_iald hM dX7_visits_50,
    ok_iast hM dX7_visits_51,
    ok_goto hM 65 dX7_visits_52 (by decide),
    ok_FR (ok_iload_n hM 3 dX7_visits_55 rfl),
    ok_if_ne hM 65 dX7_visits_56 (by decide),
    ok_aload_n hM 0 dX7_visits_59 rfl,
    ok_iload_n hM 1 dX7_visits_60 rfl,
    ok_iload_n hM 2 dX7_visits_61 rfl,
    ok_callV0 hM (ctX7_put l) rfl gX7_visits_X7_put rfl rfl rfl (by decide +kernel) (by decide) dX7_visits_62,
    ok_FR (ok_aload_n hM 0 dX7_visits_65 rfl),
    ok_get (C := RX7) (T := TX7) (Nf := 11) hM (fun _ h => List.mem_cons_of_mem _ (List.mem_append_right _ h)) rfl 0 (by decide) (List.mem_of_getElem? (i := 1) rfl) rfl dX7_visits_66,
    ok_sipush hM dX7_visits_69 rfl,
    ok_iconst hM dX7_visits_72 rfl,
    ok_iload_n hM 1 dX7_visits_73 rfl,
    ok_imul hM dX7_visits_74,
    ok_iadd hM dX7_visits_75,
    ok_iload_n hM 3 dX7_visits_76 rfl,
    ok_iadd hM dX7_visits_77,
    ok_dup2 hM dX7_visits_78,
    ok_iald hM dX7_visits_79,
    ok_iconst hM dX7_visits_80 rfl,
    ok_iadd hM dX7_visits_81,
    ok_iast hM dX7_visits_82,
    ok_FR (ok_aload_n hM 0 dX7_visits_83 rfl),
    ok_get (C := RX7) (T := TX7) (Nf := 11) hM (fun _ h => List.mem_cons_of_mem _ (List.mem_append_right _ h)) rfl 0 (by decide) (List.mem_of_getElem? (i := 1) rfl) rfl dX7_visits_84,
    ok_sipush hM dX7_visits_87 rfl,
    ok_iald hM dX7_visits_90,
    ok_if_le hM 125 dX7_visits_91 (by decide),
    ok_aload_n hM 0 dX7_visits_94 rfl,
    ok_get (C := RX7) (T := TX7) (Nf := 11) hM (fun _ h => List.mem_cons_of_mem _ (List.mem_append_right _ h)) rfl 0 (by decide) (List.mem_of_getElem? (i := 1) rfl) rfl dX7_visits_95,
    ok_sipush hM dX7_visits_98 rfl,
    ok_iald hM dX7_visits_101,
    ok_aload_n hM 0 dX7_visits_102 rfl,
    ok_get (C := RX7) (T := TX7) (Nf := 11) hM (fun _ h => List.mem_cons_of_mem _ (List.mem_append_right _ h)) rfl 0 (by decide) (List.mem_of_getElem? (i := 1) rfl) rfl dX7_visits_103,
    ok_sipush hM dX7_visits_106 rfl,
    ok_iald hM dX7_visits_109,
    ok_irem hM dX7_visits_110,
    ok_if_ne hM 125 dX7_visits_111 (by decide),
    ok_aload_n hM 0 dX7_visits_114 rfl,
    ok_callV0 hM (ctX7_move l) rfl gX7_visits_X7_move rfl rfl rfl (by decide +kernel) (by decide) dX7_visits_115,
    ok_FR (ok_aload_n hM 0 dX7_visits_118 rfl),
    ok_callV0 hM (ctX7_halve l) rfl gX7_visits_X7_halve rfl rfl rfl (by decide +kernel) (by decide) dX7_visits_119,
    ok_iadd hM dX7_visits_122,
    ok_FR (ok_istore hM 4 dX7_visits_123),
    ok_FR (ok_iload_n hM 3 dX7_visits_125 rfl),
    ok_ret hM hE dX7_visits_126,
    trivial⟩
set_option maxRecDepth 100000 in
theorem ctX7_visits (l : Launch) : Ct l yX7_visits wsX7_visits rmX7_visits 0 0 false sX7_visits := by
  refine ct_of (own := RX7) (cc := cX7_visits) (maxL := 5) (ret := (some .int)) (by decide) rfl rfl (by rintro _ _ _ ⟨x, y, t, a, v, L, R, P, S, hs, tg, bf, st, ln, at0, nu, th, r, rfl, rfl, rfl, ht, ha, hk, hL, hrl, rfl, hK⟩; exact Nat.le_of_ble_eq_true rfl) ?_
  intro X av es K hM hE hag hin hnL hsp
  obtain ⟨x, y, t, a, v, L, R, P, S, hs, tg, bf, st, ln, at0, nu, th, r, rfl, rfl, rfl, ht, ha, hk, hL, hrl, rfl, hK⟩ := hsp
  have hf := kX7_visits hM hE hnL
  have hr2 : acR v t a ≤ 2 := rsl_le _ _ _ _
  refine g_with (X := X) 65 [0, 1, 2, 3] (fun μ vs es k n => ∃ R3 : Nat → Int32, μ = 0 ∧ rl (acB v t a) (upd R3 (190 + (t * 4 + acR v t a)) (R3 (190 + (t * 4 + acR v t a)) + nI 1)) ∧ vs = [.ref 0, .int (nI t), .int (nI a), .int (nI (acR v t a))] ∧ es = mdW R3 P S hs tg bf st ln at0 nu th r ∧ k = 0 ∧ n = 0) cut_nil (fun μ hc vs es k n hI => ?_) (fun hc => ?_)
  · obtain ⟨R3, rfl, h3, rfl, rfl, rfl, rfl⟩ := hI
    have hk4 := vK_acB hk ht ha
    have hL4 : ∀ u, u < 4 → vLe (acB v t a) u = nI (L u) ∧ L u ≤ 2 := fun u hu => by rw [acB_keep]; exact hL u hu
    have e1 : nI 190 + nI 4 * nI t + nI (acR v t a) = nI (190 + (t * 4 + acR v t a)) := by rw [pk_mul, nI_add, nI_add, Nat.mul_comm, Nat.add_assoc]
    unfold acV epV at hK
    generalize acB v t a = w at h3 hk4 hL4 hK
    obtain ⟨ep, hep, e2⟩ := hk4.2.2.2
    have h188 := h3.2.2.2.2.2.2.1
    have h189 := h3.2.2.2.2.2.2.2.1
    refine g_go hf hc 5 ?_
    refine ⟨190 + (t * 4 + acR v t a), e1, by omega, ?_⟩
    refine ⟨190 + (t * 4 + acR v t a), e1, by omega, ?_⟩
    refine ⟨188, rfl, by decide, ?_⟩
    rw [h188, e2]
    refine ⟨fun h => ?_, fun h => ?_⟩
    · have h0 : ep = 0 := by
        rcases Nat.eq_zero_or_pos ep with q | q
        · exact q
        · exact absurd h (nI_nle q (by omega))
      rw [e2, h0, if_neg (fun z => z.1 rfl)] at hK
      exact hK _ _ h3
    · have h0 : 0 < ep := by
        rcases Nat.eq_zero_or_pos ep with q | q
        · subst q; exact absurd (by decide) h
        · exact q
      have hne : ¬ vEp w = 0 := by
        rw [e2]
        exact nI_ne0 h0 (by omega)
      refine ⟨189, rfl, by decide, ?_⟩
      refine ⟨188, rfl, by decide, ?_⟩
      rw [h188, h189]
      refine ⟨hne, ?_⟩
      refine ⟨fun h4 => ?_, fun h4 => ?_⟩
      · rw [if_neg (fun z => h4 z.2)] at hK
        exact hK _ _ h3
      · rw [if_pos ⟨hne, h4⟩] at hK
        refine ⟨L, _, P, S, hs, tg, bf, st, ln, at0, nu, th, r, rfl, fun u hu => by rw [h3.2.2.2.2.2.1 u hu]; exact hL4 u hu, rl_ln hk4 h3, fun q => ?_, rfl, ?_⟩
        · rw [rl_dR h3] at q
          rw [rl_mvWR h3]
          exact mv_some hk4 hL4 q
        · refine ⟨_, _, _, rfl, rfl, ?_⟩
          exact hK _ _ (rl_hv (rl_mv h3 L))
  · obtain ⟨n, hn8, hn, -, -⟩ := hrl.2.2.2.1 (t * 2 + a % 4 / 2) (by omega)
    have hrl1 : rl (ntV v t a) (if a % 2 = 0 then wtR R t a n else R) := by
      by_cases hev : a % 2 = 0
      · rw [if_pos hev]
        exact rl_wt hrl ht ha hev hn hn8
      · rw [if_neg hev, ntV_odd hev]
        exact hrl
    refine wr_ok hf hc 5 0 _ _ _ _ _ ?_
    refine ⟨_, _, t, a, n, _, R, _, rfl, rfl, rfl, ht, ha, fun _ => ⟨hn, hn8⟩, rfl, ?_⟩
    generalize (if a % 2 = 0 then wtR R t a n else R) = R1 at hrl1 ⊢
    have e189 : R1 189 = vAc v := hrl1.2.2.2.2.2.2.2.1
    have hrl2 : rl (acW v t a) (upd R1 189 (R1 189 + nI 1)) := by
      rw [e189]
      exact rl_ac hrl1 (vAc v + nI 1)
    refine ⟨189, rfl, by decide, ?_⟩
    refine ⟨189, rfl, by decide, ?_⟩
    generalize upd R1 189 (R1 189 + nI 1) = R2 at hrl2 ⊢
    refine ⟨_, _, t, a, _, R2, _, rfl, rfl, rfl, ht, ha, rfl, ?_⟩
    have eR : rsl R2 (hdR R2) (nI t) a = acR v t a := rl_rsl hrl2 (nI t) a
    rw [eR]
    refine ⟨fun h1 => ?_, fun h1 => ?_⟩
    · have h2 : ¬ acR v t a = 1 := fun q => h1 (by rw [q])
      refine ⟨fun h3 => ?_, fun h3 => ?_⟩
      · have h4 : ¬ acR v t a = 0 := fun q => h3 (by rw [q]; rfl)
        exact ⟨0, R2, rfl, rl_by ht hrl2 (by omega), rfl, rfl, rfl, rfl⟩
      · have h4 : acR v t a = 0 := (nI_eq (by omega) (by decide)).mp h3
        obtain ⟨p, hp32, hp⟩ := pt_some h4
        refine ⟨_, _, t, a, p, _, R2, _, rfl, rfl, rfl, ha, (rl_ptf hrl2 (nI t) a).trans hp, hp32, rl_ln (v := acW v t a) hk hrl2, rfl, ?_⟩
        exact ⟨0, _, rfl, rl_miss ht hrl2 h4 hp hp32, rfl, rfl, rfl, rfl⟩
    · have h2 : acR v t a = 1 := (nI_eq (by omega) (by decide)).mp h1
      have hi : fF (vHd v) (nI t * nI 256 + nI a) (a % 4 * 8) < 8 := rsl_1 h2
      have e3 : fF (hdR R2) (nI t * nI 256 + nI a) (a % 4 * 8) = fF (vHd v) (nI t * nI 256 + nI a) (a % 4 * 8) := rl_fF hrl2 _ (by omega)
      refine ⟨_, _, t, a, _, R2, _, rfl, rfl, rfl, ht, ha, rfl, ?_⟩
      rw [e3, plV, if_pos hi]
      refine ⟨189, rfl, by decide, ?_⟩
      refine ⟨40 + (a % 4 * 8 + fF (vHd v) (nI t * nI 256 + nI a) (a % 4 * 8)), by rw [nI_add], by omega, ?_⟩
      exact ⟨0, _, rfl, rl_hit ht hrl2 h2, rfl, rfl, rfl, rfl⟩
end MM12
