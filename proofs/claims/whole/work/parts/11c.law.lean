/-! The cache's methods that never throw, in the law's words. -/
section LC6
def s6_moveWay : gS := fun av es K => ∃ c wy, av = [.ref 0] ∧ inv c ∧ es = lwA c wy ∧ ∀ wy', K (some (.int (a_moveWay c))) (lwA (m_moveWay c) wy')
theorem c6_moveWay (l : Launch) : Ct l yX6_moveWay wsX6_moveWay rmX6_moveWay 0 0 false s6_moveWay := (ctX6_moveWay l).mono (fun av es K ⟨c, wy, h1, h2, h3, h4⟩ => by
  obtain ⟨v, n, ch, H, o, s, sf, z0, z1⟩ := c
  obtain ⟨ho, hs, hn, hch, hk, hkH, hk0, hk1⟩ := h2
  subst h3
  exact ⟨v, wy, n, ch, H, o, s, slX sf z0 z1, lfv v, h1, ho, hs, lfv_ok hk, rfl, fun wy' => h4 wy'⟩)
def s6_halveGains : gS := fun av es K => ∃ c wy, av = [.ref 0] ∧ inv c ∧ es = lwA c wy ∧ ∀ wy', K (some (.int (a_halveGains c))) (lwA (m_halveGains c) wy')
theorem c6_halveGains (l : Launch) : Ct l yX6_halveGains wsX6_halveGains rmX6_halveGains 0 0 false s6_halveGains := (ctX6_halveGains l).mono (fun av es K ⟨c, wy, h1, h2, h3, h4⟩ => by
  obtain ⟨v, n, ch, H, o, s, sf, z0, z1⟩ := c
  obtain ⟨ho, hs, hn, hch, hk, hkH, hk0, hk1⟩ := h2
  subst h3
  exact ⟨v, wy, n, ch, H, o, s, slX sf z0 z1, h1, ho, hs, rfl, h4 wy⟩)
def s6_clearText : gS := fun av es K => ∃ c wy, av = [.ref 0] ∧ inv c ∧ es = lwA c wy ∧ ∀ wy', K (some (.int (a_clearText c))) (lwA (m_clearText c) wy')
theorem c6_clearText (l : Launch) : Ct l yX6_clearText wsX6_clearText rmX6_clearText 0 0 false s6_clearText := (ctX6_clearText l).mono (fun av es K ⟨c, wy, h1, h2, h3, h4⟩ => by
  obtain ⟨v, n, ch, H, o, s, sf, z0, z1⟩ := c
  obtain ⟨ho, hs, hn, hch, hk, hkH, hk0, hk1⟩ := h2
  subst h3
  exact ⟨v, wy, n, ch, H, o, s, slX sf z0 z1, h1, ho, hs, rfl, h4 wy⟩)
def s6_errorPosition : gS := fun av es K => ∃ c wy, av = [.ref 0] ∧ inv c ∧ es = lwA c wy ∧ ∀ wy', K (some (.int (a_errorPosition c))) (lwA c wy')
theorem c6_errorPosition (l : Launch) : Ct l yX6_errorPosition wsX6_errorPosition rmX6_errorPosition 0 0 false s6_errorPosition := (ctX6_errorPosition l).mono (fun av es K ⟨c, wy, h1, h2, h3, h4⟩ => by
  obtain ⟨v, n, ch, H, o, s, sf, z0, z1⟩ := c
  obtain ⟨ho, hs, hn, hch, hk, hkH, hk0, hk1⟩ := h2
  subst h3
  exact ⟨v, wy, n, ch, H, o, s, slX sf z0 z1, h1, ho, hs, hn, fun j _ => hch j, rfl, h4 wy⟩)
def s6_movesLeft : gS := fun av es K => ∃ c wy, av = [.ref 0] ∧ inv c ∧ es = lwA c wy ∧ ∀ wy', K (some (.int (a_movesLeft c))) (lwA c wy')
theorem c6_movesLeft (l : Launch) : Ct l yX6_movesLeft wsX6_movesLeft rmX6_movesLeft 0 0 false s6_movesLeft := (ctX6_movesLeft l).mono (fun av es K ⟨c, wy, h1, h2, h3, h4⟩ => by
  obtain ⟨v, n, ch, H, o, s, sf, z0, z1⟩ := c
  obtain ⟨ho, hs, hn, hch, hk, hkH, hk0, hk1⟩ := h2
  subst h3
  exact ⟨v, wy, n, ch, H, o, s, slX sf z0 z1, lfv v, h1, ho, hs, lfv_ok hk, rfl, h4 _⟩)
def s6_totalUtility : gS := fun av es K => ∃ c wy, av = [.ref 0] ∧ inv c ∧ es = lwA c wy ∧ ∀ wy', K (some (.int (a_totalUtility c))) (lwA c wy')
theorem c6_totalUtility (l : Launch) : Ct l yX6_totalUtility wsX6_totalUtility rmX6_totalUtility 0 0 false s6_totalUtility := (ctX6_totalUtility l).mono (fun av es K ⟨c, wy, h1, h2, h3, h4⟩ => by
  obtain ⟨v, n, ch, H, o, s, sf, z0, z1⟩ := c
  obtain ⟨ho, hs, hn, hch, hk, hkH, hk0, hk1⟩ := h2
  subst h3
  exact ⟨v, wy, n, ch, H, o, s, slX sf z0 z1, h1, ho, hs, rfl, h4 wy⟩)
def s6_accesses : gS := fun av es K => ∃ c wy, av = [.ref 0] ∧ inv c ∧ es = lwA c wy ∧ ∀ wy', K (some (.int (a_accesses c))) (lwA c wy')
theorem c6_accesses (l : Launch) : Ct l yX6_accesses wsX6_accesses rmX6_accesses 0 0 false s6_accesses := (ctX6_accesses l).mono (fun av es K ⟨c, wy, h1, h2, h3, h4⟩ => by
  obtain ⟨v, n, ch, H, o, s, sf, z0, z1⟩ := c
  obtain ⟨ho, hs, hn, hch, hk, hkH, hk0, hk1⟩ := h2
  subst h3
  exact ⟨v, wy, n, ch, H, o, s, slX sf z0 z1, h1, ho, hs, rfl, h4 wy⟩)
def s6_savedStates : gS := fun av es K => ∃ c wy, av = [.ref 0] ∧ inv c ∧ es = lwA c wy ∧ ∀ wy', K (some (.int (a_savedStates c))) (lwA c wy')
theorem c6_savedStates (l : Launch) : Ct l yX6_savedStates wsX6_savedStates rmX6_savedStates 0 0 false s6_savedStates := (ctX6_savedStates l).mono (fun av es K ⟨c, wy, h1, h2, h3, h4⟩ => by
  obtain ⟨v, n, ch, H, o, s, sf, z0, z1⟩ := c
  obtain ⟨ho, hs, hn, hch, hk, hkH, hk0, hk1⟩ := h2
  subst h3
  exact ⟨v, wy, n, ch, H, o, s, slX sf z0 z1, h1, ho, hs, rfl, h4 wy⟩)
def s6_textLength : gS := fun av es K => ∃ c wy, av = [.ref 0] ∧ inv c ∧ es = lwA c wy ∧ ∀ wy', K (some (.int (a_textLength c))) (lwA c wy')
theorem c6_textLength (l : Launch) : Ct l yX6_textLength wsX6_textLength rmX6_textLength 0 0 false s6_textLength := (ctX6_textLength l).mono (fun av es K ⟨c, wy, h1, h2, h3, h4⟩ => by
  obtain ⟨v, n, ch, H, o, s, sf, z0, z1⟩ := c
  obtain ⟨ho, hs, hn, hch, hk, hkH, hk0, hk1⟩ := h2
  subst h3
  exact ⟨v, wy, n, ch, H, o, s, slX sf z0 z1, h1, ho, hs, rfl, h4 wy⟩)
end LC6
