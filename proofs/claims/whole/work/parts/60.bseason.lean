/-! both: a text is read -/
section BOTHS
variable {I : II} {J : JJ} {G : II} {Im : II} {Jm : JJ} {Gm : II}
theorem b_season (hR : Rl I J G Im Jm Gm) : Both isI mX6_season mX7_season [] I J G Im Jm Gm := by
  obtain ⟨Wk, P, ⟨n, bt, hn, a1, a2, a3⟩, ⟨s1, s2, s3, s4, s5, s6, s7⟩, hJ, hL, h1, h2⟩ := id hR
  have hb : ∀ i, i < 180 → G 10 i = nI (bt i) ∧ bt i < 256 := fun i hi => (a3 i hi).1
  have hbm : ∀ i, i < 180 → Gm 1 i &&& nI 255 = nI (bt i) ∧ bt i < 256 := fun i hi => ⟨(a3 i hi).2, (a3 i hi).1.2⟩
  cases hp : prs bt n 200 (skp bt n 0) pd0 0 with
  | inl g =>
    refine ⟨_, _, c_season_f hb a1 hn hp, m_season hbm a2 hn, fun r _ _ _ h => ⟨_, ⟨_, rfl⟩, h.1⟩, fun r I1 J1 G1 r' I2 J2 G2 h k => ?_⟩
    obtain ⟨rfl, hg, rfl, hI, hG⟩ := h
    obtain ⟨x, rfl, rfl, hf, -⟩ := k
    obtain ⟨rfl, b1', b2⟩ := hf g hp
    obtain ⟨c1, c2, c3, c4, c5, c6, c7, c8⟩ := b2
    refine ⟨⟨_, ⟨_, rfl⟩, rfl, rfl⟩, ⟨Wk, P, ?_, ?_, hJ, ?_, ?_, ?_⟩⟩
    · rw [hI 1 1 (by decide) (fun _ => by decide), hG 10 (by decide) (by decide), b1', c1]
      exact ⟨n, bt, hn, a1, a2, a3⟩
    · rw [hI 2 6 (by decide) (by decide), hI 2 7 (by decide) (by decide), hI 2 8 (by decide) (by decide), hG 12 (by decide) (by decide), hG 13 (by decide) (by decide), hG 16 (by decide) (by decide), hG 17 (by decide) (by decide), c4, c5, c6]
      exact ⟨s1, s2, s3, s4, s5, fun w hw => ⟨(s6 w hw).1, (c7 w (by omega)).1.trans (s6 w hw).2.1, (c7 w (by omega)).2.trans (s6 w hw).2.2⟩, fun s hs => ⟨(c8 s (by omega)).1.trans (s7 s hs).1, (c8 s (by omega)).2.trans (s7 s hs).2⟩⟩
    · rw [hI 4 2 (by decide) (by decide), hG 24 (by decide) (by decide), hG 25 (by decide) (by decide), c2]
      exact hL
    · rw [hI 5 2 (by decide) (by decide), hI 5 3 (by decide) (by decide), hG 26 (by decide) (by decide), hG 27 (by decide) (by decide), c2, c3]
      exact h1
    · rw [hI 6 2 (by decide) (by decide), hI 6 3 (by decide) (by decide), hG 28 (by decide) (by decide), hG 29 (by decide) (by decide), c2, c3]
      exact h2
  | inr q =>
    obtain ⟨k, D⟩ := q
    refine ⟨_, _, c_season_s hb a1 hn hp, m_season hbm a2 hn, fun r _ _ _ h => ⟨_, ⟨_, rfl⟩, h.1⟩, fun r I1 J1 G1 r' I2 J2 G2 h k' => ?_⟩
    obtain ⟨rfl, hk, hok, rfl, i1, i2, i3, i4, i5, i6, i7, g1, g2, g3, g4⟩ := h
    obtain ⟨x, rfl, rfl, -, hf⟩ := k'
    obtain ⟨rfl, -, -, m0, m1, m2, m3, m4, m5, m6, m7, m8, m9, m10⟩ := hf k D hp
    obtain ⟨o1, o2, o3, o4, o5, o6, o7, o8, o9⟩ := hok
    refine ⟨⟨_, ⟨_, rfl⟩, rfl, rfl⟩, ⟨pW D, pP D, ?_, ?_, hJ, ?_, ?_, ?_⟩⟩
    · rw [g4, m10]
      exact ⟨0, bt, by omega, i1, m0, a3⟩
    · exact ⟨o1, o2, ⟨i2, m1⟩, ⟨i3, m2⟩, m3.trans i4.symm, fun w hw => ⟨⟨_, o4 w, (g1 w hw).1⟩, (m4 w hw).1.trans (g1 w hw).1.symm, (m4 w hw).2.trans (g1 w hw).2.symm⟩, fun s hs => ⟨(m5 s hs).1.trans (g2 s hs).1.symm, (m5 s hs).2.trans (g2 s hs).2.symm⟩⟩
    · refine ⟨0, i5, ⟨by omega, ⟨⟨0, Nat.zero_le _, ?_⟩, fun s hs => ⟨pLi D s, pHi D s, o6 s, o7 s, ?_, ?_⟩⟩, fun k hk => absurd hk (by omega)⟩, ⟨fun j hj => (m6 j hj).trans (g3 j hj).symm, m7, fun j hj => absurd hj (by omega)⟩⟩
      · rw [g3 0 (by omega), begR_0 (by omega) (by omega)]
      · rw [g3 (8 + s) (by omega), begR_l (by omega) (by omega)]
        exact congrArg (fun i => nI (pLi D i)) (by omega)
      · rw [g3 (13 + s) (by omega), begR_h o2 (by omega) (by omega)]
        exact congrArg (fun i => nI (pHi D i)) (by omega)
    · exact ⟨false, i6, m8, fun h => absurd h (by decide)⟩
    · exact ⟨false, i7, m9, fun h => absurd h (by decide)⟩
end BOTHS
