/-! The cache's methods over its state. -/
section LM1
def p_line : gHS := fun av v F => ∃ q u : Nat, av = [.ref 0, .int (nI q), .int (nI u)] ∧ q < 4 ∧ u < 8 ∧ F (vHd v (q * 8 + u)) (v)
set_option maxRecDepth 100000 in
theorem cx_line (l : Launch) (hl : l.stackTraces = false) : CtX l yX6_line wsX6_line rmX6_line 2 12 (hSX p_line) := ctX_mono (ctX6_line l hl) (fun av es K KX hsp => by
  obtain ⟨v, F, ⟨wy, n, ch, H, o, s, sf, z0, z1, ho, hs, rfl⟩, ⟨q, u, rfl, h0, h1, hF⟩, hK⟩ := hsp
  refine ⟨nI q, nI u, v, wy, n, ch, H, o, s, slX sf z0 z1, rfl, ho, hs, rfl, fun q' u' g0 g1 e0 e1 => ?_, fun z => absurd ⟨q, h0, rfl⟩ z, fun _ z => absurd ⟨u, h1, rfl⟩ z⟩
  obtain rfl := nI_inj e0 (by omega) (by omega)
  obtain rfl := nI_inj e1 (by omega) (by omega)
  exact hK _ _ _ hF ⟨wy, n, ch, H, o, s, sf, z0, z1, ho, hs, rfl⟩)
def p_ifAccessed : gHS := fun av v F => ∃ t a : Nat, av = [.ref 0, .int (nI t), .int (nI a)] ∧ t < 4 ∧ a ≤ 255 ∧ F (nI (acR v t a)) (v)
set_option maxRecDepth 100000 in
theorem cx_ifAccessed (l : Launch) (hl : l.stackTraces = false) : CtX l yX6_ifAccessed wsX6_ifAccessed rmX6_ifAccessed 2 12 (hSX p_ifAccessed) := ctX_mono (ctX6_ifAccessed l hl) (fun av es K KX hsp => by
  obtain ⟨v, F, ⟨wy, n, ch, H, o, s, sf, z0, z1, ho, hs, rfl⟩, ⟨t, a, rfl, h0, h1, hF⟩, hK⟩ := hsp
  refine ⟨nI t, nI a, v, wy, n, ch, H, o, s, slX sf z0 z1, rfl, ho, hs, rfl, fun t' a' g0 g1 e0 e1 => ?_, fun z => absurd ⟨t, h0, rfl⟩ z, fun _ z => absurd ⟨a, Nat.zero_le _, h1, rfl⟩ z⟩
  obtain rfl := nI_inj e0 (by omega) (by omega)
  obtain rfl := nI_inj e1 (by omega) (by omega)
  exact hK _ _ _ hF ⟨wy, n, ch, H, o, s, sf, z0, z1, ho, hs, rfl⟩)
def p_victim : gHS := fun av v F => ∃ t a : Nat, av = [.ref 0, .int (nI t), .int (nI a)] ∧ t < 4 ∧ a ≤ 255 ∧ F (vcR v t a) (v)
set_option maxRecDepth 100000 in
theorem cx_victim (l : Launch) (hl : l.stackTraces = false) : CtX l yX6_victim wsX6_victim rmX6_victim 2 12 (hSX p_victim) := ctX_mono (ctX6_victim l hl) (fun av es K KX hsp => by
  obtain ⟨v, F, ⟨wy, n, ch, H, o, s, sf, z0, z1, ho, hs, rfl⟩, ⟨t, a, rfl, h0, h1, hF⟩, hK⟩ := hsp
  refine ⟨nI t, nI a, v, wy, n, ch, H, o, s, slX sf z0 z1, rfl, ho, hs, rfl, fun t' a' g0 g1 e0 e1 => ?_, fun z => absurd ⟨t, h0, rfl⟩ z, fun _ z => absurd ⟨a, Nat.zero_le _, h1, rfl⟩ z⟩
  obtain rfl := nI_inj e0 (by omega) (by omega)
  obtain rfl := nI_inj e1 (by omega) (by omega)
  exact hK _ _ _ hF ⟨wy, n, ch, H, o, s, sf, z0, z1, ho, hs, rfl⟩)
def p_gain : gHS := fun av v F => ∃ t u : Nat, av = [.ref 0, .int (nI t), .int (nI u)] ∧ t < 4 ∧ u < 8 ∧ F (vGa v (t * 8 + u)) (v)
set_option maxRecDepth 100000 in
theorem cx_gain (l : Launch) (hl : l.stackTraces = false) : CtX l yX6_gain wsX6_gain rmX6_gain 2 12 (hSX p_gain) := ctX_mono (ctX6_gain l hl) (fun av es K KX hsp => by
  obtain ⟨v, F, ⟨wy, n, ch, H, o, s, sf, z0, z1, ho, hs, rfl⟩, ⟨t, u, rfl, h0, h1, hF⟩, hK⟩ := hsp
  refine ⟨nI t, nI u, v, wy, n, ch, H, o, s, slX sf z0 z1, rfl, ho, hs, rfl, fun t' u' g0 g1 e0 e1 => ?_, fun z => absurd ⟨t, h0, rfl⟩ z, fun _ z => absurd ⟨u, h1, rfl⟩ z⟩
  obtain rfl := nI_inj e0 (by omega) (by omega)
  obtain rfl := nI_inj e1 (by omega) (by omega)
  exact hK _ _ _ hF ⟨wy, n, ch, H, o, s, sf, z0, z1, ho, hs, rfl⟩)
def p_utility : gHS := fun av v F => ∃ t u : Nat, av = [.ref 0, .int (nI t), .int (nI u)] ∧ t < 4 ∧ u ≤ 8 ∧ F (sumI (fun p => vGa v (t * 8 + p)) u) (v)
set_option maxRecDepth 100000 in
theorem cx_utility (l : Launch) (hl : l.stackTraces = false) : CtX l yX6_utility wsX6_utility rmX6_utility 2 12 (hSX p_utility) := ctX_mono (ctX6_utility l hl) (fun av es K KX hsp => by
  obtain ⟨v, F, ⟨wy, n, ch, H, o, s, sf, z0, z1, ho, hs, rfl⟩, ⟨t, u, rfl, h0, h1, hF⟩, hK⟩ := hsp
  refine ⟨nI t, nI u, v, wy, n, ch, H, o, s, slX sf z0 z1, rfl, ho, hs, rfl, fun t' u' g0 g1 e0 e1 => ?_, fun z => absurd ⟨t, h0, rfl⟩ z, fun _ z => absurd ⟨u, Nat.zero_le _, h1, rfl⟩ z⟩
  obtain rfl := nI_inj e0 (by omega) (by omega)
  obtain rfl := nI_inj e1 (by omega) (by omega)
  exact hK _ _ _ hF ⟨wy, n, ch, H, o, s, sf, z0, z1, ho, hs, rfl⟩)
def p_count : gHS := fun av v F => ∃ t u : Nat, av = [.ref 0, .int (nI t), .int (nI u)] ∧ t < 4 ∧ u ≤ 3 ∧ F (vCo v (t * 4 + u)) (v)
set_option maxRecDepth 100000 in
theorem cx_count (l : Launch) (hl : l.stackTraces = false) : CtX l yX6_count wsX6_count rmX6_count 2 12 (hSX p_count) := ctX_mono (ctX6_count l hl) (fun av es K KX hsp => by
  obtain ⟨v, F, ⟨wy, n, ch, H, o, s, sf, z0, z1, ho, hs, rfl⟩, ⟨t, u, rfl, h0, h1, hF⟩, hK⟩ := hsp
  refine ⟨nI t, nI u, v, wy, n, ch, H, o, s, slX sf z0 z1, rfl, ho, hs, rfl, fun t' u' g0 g1 e0 e1 => ?_, fun z => absurd ⟨t, h0, rfl⟩ z, fun _ z => absurd ⟨u, Nat.zero_le _, h1, rfl⟩ z⟩
  obtain rfl := nI_inj e0 (by omega) (by omega)
  obtain rfl := nI_inj e1 (by omega) (by omega)
  exact hK _ _ _ hF ⟨wy, n, ch, H, o, s, sf, z0, z1, ho, hs, rfl⟩)
def p_access : gHS := fun av v F => ∃ t a : Nat, av = [.ref 0, .int (nI t), .int (nI a)] ∧ t < 4 ∧ a ≤ 255 ∧ vK v ∧ F (nI (acR v t a)) (acV (lfv v) v t a)
set_option maxRecDepth 100000 in
theorem cx_access (l : Launch) (hl : l.stackTraces = false) : CtX l yX6_access wsX6_access rmX6_access 2 12 (hSX p_access) := ctX_mono (ctX6_access l hl) (fun av es K KX hsp => by
  obtain ⟨v, F, ⟨wy, n, ch, H, o, s, sf, z0, z1, ho, hs, rfl⟩, ⟨t, a, rfl, h0, h1, hk, hF⟩, hK⟩ := hsp
  refine ⟨nI t, nI a, v, wy, n, ch, H, o, s, slX sf z0 z1, lfv v, rfl, ho, hs, lfv_ok hk, rfl, fun t' a' g0 g1 e0 e1 wy9 => ?_, fun z => absurd ⟨t, h0, rfl⟩ z, fun _ z => absurd ⟨a, Nat.zero_le _, h1, rfl⟩ z⟩
  obtain rfl := nI_inj e0 (by omega) (by omega)
  obtain rfl := nI_inj e1 (by omega) (by omega)
  exact hK _ _ _ hF ⟨_, n, ch, _, _, _, sf, z0, z1, (ps_ok ho).1, (ps_ok ho).2, rfl⟩)
def p_giveWay : gHS := fun av v F => ∃ u t : Nat, av = [.ref 0, .int (nI u), .int (nI t)] ∧ u < 8 ∧ t < 4 ∧ F (vOw v u) ((upd (vOw v) u (nI t), vHd v, vSt v, vAd v, vGa v, vLe v, vCo v, vEp v, vAc v))
set_option maxRecDepth 100000 in
theorem cx_giveWay (l : Launch) (hl : l.stackTraces = false) : CtX l yX6_giveWay wsX6_giveWay rmX6_giveWay 2 12 (hSX p_giveWay) := ctX_mono (ctX6_giveWay l hl) (fun av es K KX hsp => by
  obtain ⟨v, F, ⟨wy, n, ch, H, o, s, sf, z0, z1, ho, hs, rfl⟩, ⟨u, t, rfl, h0, h1, hF⟩, hK⟩ := hsp
  refine ⟨nI u, nI t, v, wy, n, ch, H, o, s, slX sf z0 z1, rfl, ho, hs, rfl, fun u' t' g0 g1 e0 e1 => ?_, fun z => absurd ⟨u, h0, rfl⟩ z, fun _ z => absurd ⟨t, h1, rfl⟩ z⟩
  obtain rfl := nI_inj e0 (by omega) (by omega)
  obtain rfl := nI_inj e1 (by omega) (by omega)
  exact hK _ _ _ hF ⟨_, n, ch, _, _, _, sf, z0, z1, (ps_ok ho).1, (ps_ok ho).2, rfl⟩)
def p_setLeast : gHS := fun av v F => ∃ t q : Nat, av = [.ref 0, .int (nI t), .int (nI q)] ∧ t < 4 ∧ q ≤ 2 ∧ F (vLe v t) ((vOw v, vHd v, vSt v, vAd v, vGa v, upd (vLe v) t (nI q), vCo v, vEp v, vAc v))
set_option maxRecDepth 100000 in
theorem cx_setLeast (l : Launch) (hl : l.stackTraces = false) : CtX l yX6_setLeast wsX6_setLeast rmX6_setLeast 2 12 (hSX p_setLeast) := ctX_mono (ctX6_setLeast l hl) (fun av es K KX hsp => by
  obtain ⟨v, F, ⟨wy, n, ch, H, o, s, sf, z0, z1, ho, hs, rfl⟩, ⟨t, q, rfl, h0, h1, hF⟩, hK⟩ := hsp
  refine ⟨nI t, nI q, v, wy, n, ch, H, o, s, slX sf z0 z1, rfl, ho, hs, rfl, fun t' q' g0 g1 e0 e1 => ?_, fun z => absurd ⟨t, h0, rfl⟩ z, fun _ z => absurd ⟨q, Nat.zero_le _, h1, rfl⟩ z⟩
  obtain rfl := nI_inj e0 (by omega) (by omega)
  obtain rfl := nI_inj e1 (by omega) (by omega)
  exact hK _ _ _ hF ⟨_, n, ch, _, _, _, sf, z0, z1, (ps_ok ho).1, (ps_ok ho).2, rfl⟩)
def p_owner : gHS := fun av v F => ∃ u : Nat, av = [.ref 0, .int (nI u)] ∧ u < 8 ∧ F (vOw v u) (v)
set_option maxRecDepth 100000 in
theorem cx_owner (l : Launch) (hl : l.stackTraces = false) : CtX l yX6_owner wsX6_owner rmX6_owner 1 6 (hSX p_owner) := ctX_mono (ctX6_owner l hl) (fun av es K KX hsp => by
  obtain ⟨v, F, ⟨wy, n, ch, H, o, s, sf, z0, z1, ho, hs, rfl⟩, ⟨u, rfl, h0, hF⟩, hK⟩ := hsp
  refine ⟨nI u, v, wy, n, ch, H, o, s, slX sf z0 z1, rfl, ho, hs, rfl, fun u' g0 e0 => ?_, fun z => absurd ⟨u, h0, rfl⟩ z⟩
  obtain rfl := nI_inj e0 (by omega) (by omega)
  exact hK _ _ _ hF ⟨wy, n, ch, H, o, s, sf, z0, z1, ho, hs, rfl⟩)
def p_waysOf : gHS := fun av v F => ∃ t : Nat, av = [.ref 0, .int (nI t)] ∧ t < 4 ∧ F (nI (fOwn (vOw v) (nI t))) (v)
set_option maxRecDepth 100000 in
theorem cx_waysOf (l : Launch) (hl : l.stackTraces = false) : CtX l yX6_waysOf wsX6_waysOf rmX6_waysOf 1 6 (hSX p_waysOf) := ctX_mono (ctX6_waysOf l hl) (fun av es K KX hsp => by
  obtain ⟨v, F, ⟨wy, n, ch, H, o, s, sf, z0, z1, ho, hs, rfl⟩, ⟨t, rfl, h0, hF⟩, hK⟩ := hsp
  refine ⟨nI t, v, wy, n, ch, H, o, s, slX sf z0 z1, rfl, ho, hs, rfl, fun t' g0 e0 => ?_, fun z => absurd ⟨t, h0, rfl⟩ z⟩
  obtain rfl := nI_inj e0 (by omega) (by omega)
  exact hK _ _ _ hF ⟨wy, n, ch, H, o, s, sf, z0, z1, ho, hs, rfl⟩)
def p_target : gHS := fun av v F => ∃ t : Nat, av = [.ref 0, .int (nI t)] ∧ t < 4 ∧ vK v ∧ F (nI (tgt (lfv v) (vGa v) t)) (v)
set_option maxRecDepth 100000 in
theorem cx_target (l : Launch) (hl : l.stackTraces = false) : CtX l yX6_target wsX6_target rmX6_target 1 6 (hSX p_target) := ctX_mono (ctX6_target l hl) (fun av es K KX hsp => by
  obtain ⟨v, F, ⟨wy, n, ch, H, o, s, sf, z0, z1, ho, hs, rfl⟩, ⟨t, rfl, h0, hk, hF⟩, hK⟩ := hsp
  refine ⟨nI t, v, wy, n, ch, H, o, s, slX sf z0 z1, lfv v, rfl, ho, hs, lfv_ok hk, rfl, fun t' g0 e0 => ?_, fun z => absurd ⟨t, h0, rfl⟩ z⟩
  obtain rfl := nI_inj e0 (by omega) (by omega)
  exact hK _ _ _ hF ⟨_, n, ch, H, o, s, sf, z0, z1, ho, hs, rfl⟩)
def p_flush : gHS := fun av v F => ∃ t : Nat, av = [.ref 0, .int (nI t)] ∧ t < 4 ∧ F (nI (cnt (hol (vHd v) (nI t)) 32)) (rmV v t)
set_option maxRecDepth 100000 in
theorem cx_flush (l : Launch) (hl : l.stackTraces = false) : CtX l yX6_flush wsX6_flush rmX6_flush 1 6 (hSX p_flush) := ctX_mono (ctX6_flush l hl) (fun av es K KX hsp => by
  obtain ⟨v, F, ⟨wy, n, ch, H, o, s, sf, z0, z1, ho, hs, rfl⟩, ⟨t, rfl, h0, hF⟩, hK⟩ := hsp
  refine ⟨nI t, v, wy, n, ch, H, o, s, slX sf z0 z1, rfl, ho, hs, rfl, fun t' g0 e0 => ?_, fun z => absurd ⟨t, h0, rfl⟩ z⟩
  obtain rfl := nI_inj e0 (by omega) (by omega)
  exact hK _ _ _ hF ⟨_, n, ch, _, _, _, sf, z0, z1, (ps_ok ho).1, (ps_ok ho).2, rfl⟩)
def p_lines : gHS := fun av v F => ∃ (t : Nat) (b : Int32), av = [.ref 0, .int (nI t), .int b] ∧ t < 4 ∧ F (liR v t b) v
set_option maxRecDepth 100000 in
theorem cx_lines (l : Launch) (hl : l.stackTraces = false) : CtX l yX6_lines wsX6_lines rmX6_lines 1 6 (hSX p_lines) := ctX_mono (ctX6_lines l hl) (fun av es K KX hsp => by
  obtain ⟨v, F, ⟨wy, n, ch, H, o, s, sf, z0, z1, ho, hs, rfl⟩, ⟨t, b, rfl, h0, hF⟩, hK⟩ := hsp
  refine ⟨nI t, b, v, wy, n, ch, H, o, s, slX sf z0 z1, rfl, ho, hs, rfl, fun t' g0 e0 => ?_, fun z => absurd ⟨t, h0, rfl⟩ z⟩
  obtain rfl := nI_inj e0 (by omega) (by omega)
  exact hK _ _ _ hF ⟨wy, n, ch, H, o, s, sf, z0, z1, ho, hs, rfl⟩)
def p_monitored : gHS := fun av v F => ∃ t q u : Nat, av = [.ref 0, .int (nI t), .int (nI q), .int (nI u)] ∧ t < 4 ∧ (q = 0 ∨ q = 2) ∧ u < 8 ∧ F (vAd v ((t * 2 + q / 2) * 8 + u)) v
set_option maxRecDepth 100000 in
theorem cx_monitored (l : Launch) (hl : l.stackTraces = false) : CtX l yX6_monitored wsX6_monitored rmX6_monitored 2 12 (hSX p_monitored) := ctX_mono (ctX6_monitored l hl) (fun av es K KX hsp => by
  obtain ⟨v, F, ⟨wy, n, ch, H, o, s, sf, z0, z1, ho, hs, rfl⟩, ⟨t, q, u, rfl, h0, h1, h2, hF⟩, hK⟩ := hsp
  have hq : nI q = nI 0 ∨ nI q = nI 2 := by rcases h1 with rfl | rfl <;> simp
  refine ⟨nI t, nI q, nI u, v, wy, n, ch, H, o, s, slX sf z0 z1, rfl, ho, hs, rfl, fun t' q' u' g0 g1 g2 e0 e1 e2 => ?_, fun z => absurd ⟨t, h0, rfl⟩ z, fun _ z => absurd hq z, fun _ _ z => absurd ⟨u, h2, rfl⟩ z⟩
  obtain rfl := nI_inj e0 (by omega) (by omega)
  obtain rfl := nI_inj e1 (by omega) (by omega)
  obtain rfl := nI_inj e2 (by omega) (by omega)
  exact hK _ _ _ hF ⟨wy, n, ch, H, o, s, sf, z0, z1, ho, hs, rfl⟩)
def p_stream : gHS := fun av v F => ∃ t a c m : Nat, av = [.ref 0, .int (nI t), .int (nI a), .int (nI c), .int (nI m)] ∧ t < 4 ∧ a ≤ 255 ∧ 1 ≤ c ∧ c ≤ 64 ∧ 1 ≤ m ∧ m ≤ 40 ∧ vK v ∧ F (nI (stH (lfv v) v t a c m)) (stS (lfv v) v t a c m)
set_option maxRecDepth 100000 in
theorem cx_stream (l : Launch) (hl : l.stackTraces = false) : CtX l yX6_stream wsX6_stream rmX6_stream 4 24 (hSX p_stream) := ctX_mono (ctX6_stream l hl) (fun av es K KX hsp => by
  obtain ⟨v, F, ⟨wy, n, ch, H, o, s, sf, z0, z1, ho, hs, rfl⟩, ⟨t, a, c, m, rfl, h0, h1, h2, h3, h4, h5, hk, hF⟩, hK⟩ := hsp
  refine ⟨nI t, nI a, nI c, nI m, v, wy, n, ch, H, o, s, slX sf z0 z1, lfv v, rfl, ho, hs, lfv_ok hk, rfl, fun t' a' c' m' g0 g1 g2 g3 g4 g5 e0 e1 e2 e3 wy9 => ?_, fun z => absurd ⟨t, h0, rfl⟩ z, fun _ z => absurd ⟨a, Nat.zero_le _, h1, rfl⟩ z, fun _ _ z => absurd ⟨c, h2, h3, rfl⟩ z, fun _ _ _ z => absurd ⟨m, h4, h5, rfl⟩ z⟩
  obtain rfl := nI_inj e0 (by omega) (by omega)
  obtain rfl := nI_inj e1 (by omega) (by omega)
  obtain rfl := nI_inj e2 (by omega) (by omega)
  obtain rfl := nI_inj e3 (by omega) (by omega)
  exact hK _ _ _ hF ⟨_, n, ch, _, _, _, sf, z0, z1, (ps_ok ho).1, (ps_ok ho).2, rfl⟩)
def p_moveWay : gHS := fun av v F => av = [.ref 0] ∧ vK v ∧ F (oI (mvW (lfv v) v)) (mvV (lfv v) v)
set_option maxRecDepth 100000 in
theorem cx_moveWay (l : Launch) : Ct l yX6_moveWay wsX6_moveWay rmX6_moveWay 0 0 false (hS p_moveWay) := (ctX6_moveWay l).mono (fun av es K hsp => by
  obtain ⟨v, F, ⟨wy, n, ch, H, o, s, sf, z0, z1, ho, hs, rfl⟩, ⟨rfl, hk, hF⟩, hK⟩ := hsp
  exact ⟨v, wy, n, ch, H, o, s, slX sf z0 z1, lfv v, rfl, ho, hs, lfv_ok hk, rfl, fun wy9 => hK _ _ _ hF ⟨_, n, ch, _, _, _, sf, z0, z1, (ps_ok ho).1, (ps_ok ho).2, rfl⟩⟩)
def p_movesLeft : gHS := fun av v F => av = [.ref 0] ∧ vK v ∧ F (sumI (mxD (lfv v) v) 4) (v)
set_option maxRecDepth 100000 in
theorem cx_movesLeft (l : Launch) : Ct l yX6_movesLeft wsX6_movesLeft rmX6_movesLeft 0 0 false (hS p_movesLeft) := (ctX6_movesLeft l).mono (fun av es K hsp => by
  obtain ⟨v, F, ⟨wy, n, ch, H, o, s, sf, z0, z1, ho, hs, rfl⟩, ⟨rfl, hk, hF⟩, hK⟩ := hsp
  exact ⟨v, wy, n, ch, H, o, s, slX sf z0 z1, lfv v, rfl, ho, hs, lfv_ok hk, rfl, hK _ _ _ hF ⟨_, n, ch, H, o, s, sf, z0, z1, ho, hs, rfl⟩⟩)
def p_halveGains : gHS := fun av v F => av = [.ref 0] ∧ F (sumI (hlv (vGa v)) 32) (hlV v)
set_option maxRecDepth 100000 in
theorem cx_halveGains (l : Launch) : Ct l yX6_halveGains wsX6_halveGains rmX6_halveGains 0 0 false (hS p_halveGains) := (ctX6_halveGains l).mono (fun av es K hsp => by
  obtain ⟨v, F, ⟨wy, n, ch, H, o, s, sf, z0, z1, ho, hs, rfl⟩, ⟨rfl, hF⟩, hK⟩ := hsp
  exact ⟨v, wy, n, ch, H, o, s, slX sf z0 z1, rfl, ho, hs, rfl, hK _ _ _ hF ⟨_, n, ch, _, _, _, sf, z0, z1, (ps_ok ho).1, (ps_ok ho).2, rfl⟩⟩)
def p_accesses : gHS := fun av v F => av = [.ref 0] ∧ F (vAc v) (v)
set_option maxRecDepth 100000 in
theorem cx_accesses (l : Launch) : Ct l yX6_accesses wsX6_accesses rmX6_accesses 0 0 false (hS p_accesses) := (ctX6_accesses l).mono (fun av es K hsp => by
  obtain ⟨v, F, ⟨wy, n, ch, H, o, s, sf, z0, z1, ho, hs, rfl⟩, ⟨rfl, hF⟩, hK⟩ := hsp
  exact ⟨v, wy, n, ch, H, o, s, slX sf z0 z1, rfl, ho, hs, rfl, hK _ _ _ hF ⟨wy, n, ch, H, o, s, sf, z0, z1, ho, hs, rfl⟩⟩)
def p_savedStates : gHS := fun av v F => av = [.ref 0] ∧ ∀ s : Nat, s ≤ 6 → F (nI s) v
set_option maxRecDepth 100000 in
theorem cx_savedStates (l : Launch) : Ct l yX6_savedStates wsX6_savedStates rmX6_savedStates 0 0 false (hS p_savedStates) := (ctX6_savedStates l).mono (fun av es K hsp => by
  obtain ⟨v, F, ⟨wy, n, ch, H, o, s, sf, z0, z1, ho, hs, rfl⟩, ⟨rfl, hF⟩, hK⟩ := hsp
  exact ⟨v, wy, n, ch, H, o, s, slX sf z0 z1, rfl, ho, hs, rfl, hK _ _ _ (hF s hs) ⟨wy, n, ch, H, o, s, sf, z0, z1, ho, hs, rfl⟩⟩)
end LM1
