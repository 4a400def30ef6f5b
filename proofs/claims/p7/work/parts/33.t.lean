theorem zFi_off (S : zS) {q k t b : Nat} (i1 i2 i3 i4 : Int32) (ha : b ≠ q) (hi : b ≠ k) (hr : b ≠ t) (j : Nat) : (zFi (zSn S q) q k t i1 i2 i3 i4).1 b j = S.1 b j ∧ (zFi (zSn S q) q k t i1 i2 i3 i4).2.2 b j = S.2.2 b j := by
  unfold zFi
  simp only [zpi_at, zpj_at, zpq_at, zpi_2, zpj_1, zpj_22, zpq_1, zpq_21, zSn_1, zSn_21, zSn_22, ha, hi, hr, false_and, if_false, and_self]
theorem zFi_at (S : zS) {q k t : Nat} (i1 i2 i3 i4 : Int32) (hi : q ≠ k) (hr : q ≠ t) : (zFi (zSn S q) q k t i1 i2 i3 i4).1 q 1 = i2 ∧ (zFi (zSn S q) q k t i1 i2 i3 i4).1 q 2 = i3 ∧ (zFi (zSn S q) q k t i1 i2 i3 i4).2.2 q 7 = some k ∧ (zFi (zSn S q) q k t i1 i2 i3 i4).2.2 q 8 = some t := by
  unfold zFi
  simp [zpi_at, zpj_at, zpq_at, zpi_2, zpj_1, zpj_22, zpq_1, zpq_21, zSn_1, zSn_21, zSn_22, hi, hr, hi.symm, hr.symm]
abbrev zG3 (G : zG) (q k t : Nat) : zG := zGn (zGn (zGn G q 1 0) k 9 8) t 8 8
/-- a new frame q of the ID j -/
theorem zCI.frame {G : zG} {S T : zS} {x f n sc ia na d ka va o : Nat} (h : zCI G S x f n sc ia na d ka va o) {q k t j : Nat} {i1 i2 i3 i4 : Int32} (hq : q ∉ G.1) (hk : k ∉ (zGn G q 1 0).1) (ht : t ∉ (zGn (zGn G q 1 0) k 9 8).1) (hT : T = zpq (zFi (zSn S q) q k t i1 i2 i3 i4) f j (some q)) (hb : ∃ m : Nat, m ≤ 8 ∧ i2 = nI m) :
    zCI (zG3 G q k t) T x f n sc ia na d ka va o ∧ T.1 x 4 = S.1 x 4 ∧ T.1 sc 2 = S.1 sc 2 ∧ (∀ i, i < 62 → zfv T (T.2.2 f i) = if i = j then some (i2, i3) else zfv S (S.2.2 f i)) ∧ ∀ i, i < 8 → T.2.2 n i = S.2.2 n i ∧ ∀ a, S.2.2 n i = some a → T.1 a 3 = S.1 a 3 := by
  subst hT
  obtain ⟨hX, ho, hi⟩ := h
  obtain ⟨h0, h1, h2, h3, h4, h5, h6, h7, h8, h9⟩ := _root_.id hX
  have qk : q ≠ k := fun c => hk (by rw [← c]; exact (zO.nw G q 1 0).1)
  have qt : q ≠ t := fun c => ht (by rw [← c]; exact ((zO.nw G q 1 0).gn hk).1)
  have kt : k ≠ t := fun c => ht (by rw [← c]; exact (zO.nw (zGn G q 1 0) k 9 8).1)
  have old : ∀ {a kd}, zO G a kd → zO (zG3 G q k t) a kd := fun h => ((h.gn hq).gn hk).gn ht
  have aq : ∀ {a kd}, zO G a kd → a ≠ q := fun h => h.ne hq
  have ak : ∀ {a kd}, zO G a kd → a ≠ k := fun h => (h.gn (kd' := 1) (n := 0) hq).ne hk
  have at' : ∀ {a kd}, zO G a kd → a ≠ t := fun h => ((h.gn (kd' := 1) (n := 0) hq).gn (kd' := 9) (n := 8) hk).ne ht
  have ln : ∀ {a kd}, zO G a kd → (zG3 G q k t).2.2 a = G.2.2 a := fun h => ((zGn_len' (at' h) 8 8).trans (zGn_len' (ak h) 9 8)).trans (zGn_len' (aq h) 1 0)
  have e1 : ∀ {a kd}, zO G a kd → ∀ i, (zpq (zFi (zSn S q) q k t i1 i2 i3 i4) f j (some q)).1 a i = S.1 a i := fun h i => (zFi_off S i1 i2 i3 i4 (aq h) (ak h) (at' h) i).1
  have e2' : ∀ {a}, a ≠ f → a ≠ q → a ≠ k → a ≠ t → ∀ i, (zpq (zFi (zSn S q) q k t i1 i2 i3 i4) f j (some q)).2.2 a i = S.2.2 a i := fun nf a1 a2 a3 i => by
    rw [zpq_at, if_neg (fun c => nf c.1)]; exact (zFi_off S i1 i2 i3 i4 a1 a2 a3 i).2
  have nf : ∀ {a kd}, zO G a kd → kd ≠ 11 → a ≠ f := fun h hk c => hk (by have := h.2; rw [c, h5.1.2] at this; exact this.symm)
  have e2 : ∀ {a kd}, zO G a kd → kd ≠ 11 → ∀ i, (zpq (zFi (zSn S q) q k t i1 i2 i3 i4) f j (some q)).2.2 a i = S.2.2 a i := fun h hk i => e2' (nf h hk) (aq h) (ak h) (at' h) i
  have ef : ∀ i, (zpq (zFi (zSn S q) q k t i1 i2 i3 i4) f j (some q)).2.2 f i = if i = j then some q else S.2.2 f i := fun i => by
    rw [zpq_at]
    by_cases c : i = j
    · rw [if_pos ⟨rfl, c⟩, if_pos c]
    · rw [if_neg (fun z => c z.2), if_neg c]; exact (zFi_off S i1 i2 i3 i4 (aq h5.1) (ak h5.1) (at' h5.1) i).2
  have q2 : ∀ i, (zpq (zFi (zSn S q) q k t i1 i2 i3 i4) f j (some q)).2.2 q i = (zFi (zSn S q) q k t i1 i2 i3 i4).2.2 q i := fun i => by
    rw [zpq_at, if_neg (fun c => aq h5.1 c.1.symm)]
  obtain ⟨p1, p2, p3, p4⟩ := zFi_at S (q := q) (k := k) (t := t) i1 i2 i3 i4 qk qt
  have fq : zFe (zG3 G q k t) (zpq (zFi (zSn S q) q k t i1 i2 i3 i4) f j (some q)) q := by
    refine ⟨k, t, ((zO.nw G q 1 0).gn hk).gn ht, (q2 7).trans p3, (q2 8).trans p4, ?_, (zO.nw _ k 9 8).gn ht, ?_, zO.nw _ t 8 8, zGn_len _ t 8 8⟩
    · obtain ⟨m, m1, m2⟩ := hb
      exact ⟨m, m1, p1.trans m2⟩
    · exact (zGn_len' kt 8 8).trans (zGn_len _ k 9 8)
  have fe : ∀ y, zFe G S y → zFe (zG3 G q k t) (zpq (zFi (zSn S q) q k t i1 i2 i3 i4) f j (some q)) y := by
    intro y ⟨k1, t1, g⟩
    obtain ⟨g1, g2, g3, ⟨m, m1, m2⟩, g5, g6, g7, g8⟩ := g
    exact ⟨k1, t1, old g1, (e2 g1 (by decide) 7).trans g2, (e2 g1 (by decide) 8).trans g3, ⟨m, m1, (e1 g1 1).trans m2⟩, old g5, (ln g5).trans g6, old g7, (ln g7).trans g8⟩
  refine ⟨⟨⟨old h0, (e2 h0 (by decide) 0).trans h1, (e2 h0 (by decide) 1).trans h2, (e2 h0 (by decide) 2).trans h3, (e2 h0 (by decide) 3).trans h4, ⟨old h5.1, (ln h5.1).trans h5.2.1, fun i y hi' hy => ?_⟩, ⟨old h6.1, (ln h6.1).trans h6.2.1, fun i hi' => ?_⟩, ?_, ?_, fun r y hr hy => ?_⟩, ⟨old ho.1, (ln ho.1).trans ho.2⟩, fun i i' a b e => hi i i' a b ?_⟩, e1 h0 4, e1 h7.1 2, fun i hi' => ?_, fun i hi' => ⟨e2 h6.1 (by decide) i, fun a ha => ?_⟩⟩
  · rw [ef i] at hy
    by_cases c : i = j
    · rw [if_pos c] at hy; cases Option.some.inj hy; exact fq
    · rw [if_neg c] at hy; exact fe y (h5.2.2 i y hi' hy)
  · obtain ⟨a, b, c, g1, g2, g3, g4, g5, g6⟩ := h6.2.2 i hi'
    exact ⟨a, b, c, (e2 h6.1 (by decide) i).trans g1, old g2, (e2 g2 (by decide) 1).trans g3, (e2 g2 (by decide) 2).trans g4, old g5, old g6⟩
  · obtain ⟨g1, g2, g3, g4, g5, g6, g7⟩ := h7
    exact ⟨old g1, (e2 g1 (by decide) 0).trans g2, (e2 g1 (by decide) 1).trans g3, old g4, (ln g4).trans g5, old g6, (ln g6).trans g7⟩
  · obtain ⟨g1, g2, g3, g4, g5, g6, g7⟩ := h8
    exact ⟨old g1, (e2 g1 (by decide) 0).trans g2, (e2 g1 (by decide) 1).trans g3, old g4, (ln g4).trans g5, old g6, (ln g6).trans g7⟩
  · have rt : r ≠ t := fun c => by rw [c, (zO.nw _ t 8 8).2] at hr; cases hr
    have rk : r ≠ k := fun c => by rw [c, ((zO.nw _ k 9 8).gn ht).2] at hr; cases hr
    have rq : r ≠ q := fun c => by rw [c, (((zO.nw G q 1 0).gn hk).gn ht).2] at hr; cases hr
    have hr' : G.2.1 r = 4 := by
      have : (zG3 G q k t).2.1 r = G.2.1 r := by
        show va_up (va_up (va_up G.2.1 q 1) k 9) t 8 r = _
        rw [va_up_ne _ _ rt, va_up_ne _ _ rk, va_up_ne _ _ rq]
      rw [← this]; exact hr
    rw [e2' (fun c => by rw [c, h5.1.2] at hr'; cases hr') rq rk rt 0] at hy
    exact fe y (h9 r y hr' hy)
  · rw [← e2 h6.1 (by decide) i, ← e2 h6.1 (by decide) i']; exact e
  · rw [ef i]
    by_cases c : i = j
    · rw [if_pos c, if_pos c]
      show some (_, _) = _
      congr 1
      exact Prod.ext p1 p2
    · rw [if_neg c, if_neg c]
      refine zfv_eq (fun y hy => ?_)
      obtain ⟨k1, t1, g⟩ := h5.2.2 i y hi' hy
      exact ⟨e1 g.1 1, e1 g.1 2⟩
  · obtain ⟨a', b, c, g1, g2⟩ := h6.2.2 i hi'
    cases Option.some.inj (g1.symm.trans ha)
    exact e1 g2.1 3
theorem zlen8 {b : Int32} (h1 : ¬ b < 1) (h2 : ¬ 8 < b) : ∃ m : Nat, m ≤ 8 ∧ b = nI m := by
  rw [Int32.lt_iff_toInt_lt] at h1 h2
  obtain ⟨j, hj, e⟩ := nI_of2 (M := 8) (n := 8) (by decide) (by rw [Int32.lt_iff_toInt_lt]; exact fun c => h1 (Int.lt_trans c (by decide))) (by rw [Int32.le_iff_toInt_le]; omega)
  exact ⟨j, by omega, e⟩
theorem s_frame {G1 G2 : zG} {S1 T1 S2 T2 : zS} {x f n sc ia na d ka va o mo : Nat} {ad : Nat → Nat} {id b v e1 k9 : Int32} {u1 : zG × zS} (h : zCI G1 S1 x f n sc ia na d ka va o) (hM : zMI G2 S2 mo ad) (hR : zRl x f n sc mo ad S1 S2) (hw : (k9 = 0 ∧ (∃ q k t j i : Nat, ∃ w1 : Int32, q ∉ G1.1 ∧ k ∉ (zGn G1 q 1 0).1 ∧ t ∉ (zGn (zGn G1 q 1 0) k 9 8).1 ∧ j < 62 ∧ i < 8 ∧ id = nI j ∧ v = nI i ∧ kFrame (S1.1 x 4) id b v = 0 ∧ w1 = zenh e1 j ∧ u1 = (zGn (zGn (zGn G1 q 1 0) k 9 8) t 8 8, zpq (zFi (zSn S1 q) q k t id b v w1) f j (some q)))) ∨ (k9 = 1 ∧ (kFrame (S1.1 x 4) id b v = 1) ∧ u1 = (G1, S1)) ∨ (k9 = 2 ∧ (kFrame (S1.1 x 4) id b v = 2) ∧ u1 = (G1, S1))) (hm : (zC mo ad [1, 2, 3, 4, 5, 6, 13] [0] S2 T2 ∧ zI mo ad T2) ∧ T2.1 mo 0 = kFrame (S2.1 mo 33) id b v ∧ (T2.1 mo 0 = 0 → ∃ j, j < 62 ∧ id = nI j ∧ T2.1 (ad 1) = upd (S2.1 (ad 1)) j (vp_nar .boolean 1) ∧ T2.1 (ad 2) = upd (S2.1 (ad 2)) j b ∧ T2.1 (ad 3) = upd (S2.1 (ad 3)) j v ∧ T2.1 (ad 4) = upd (S2.1 (ad 4)) j (vp_nar .boolean e1) ∧ zB5 (S2.1 (ad 5)) (T2.1 (ad 5)) j 8 ∧ zL6 (S2.1 (ad 6)) (T2.1 (ad 6)) j 8) ∧ (¬ T2.1 mo 0 = 0 → T2.1 (ad 1) = S2.1 (ad 1) ∧ T2.1 (ad 2) = S2.1 (ad 2) ∧ T2.1 (ad 3) = S2.1 (ad 3) ∧ T2.1 (ad 4) = S2.1 (ad 4) ∧ T2.1 (ad 5) = S2.1 (ad 5) ∧ T2.1 (ad 6) = S2.1 (ad 6)) ∧ zZr (T2.1 (ad 6))) (hY : zRy f ad S1 S2) (he1 : e1 = 0 ∨ e1 = 1) :
    zCI u1.1 u1.2 x f n sc ia na d ka va o ∧ zMI G2 T2 mo ad ∧ (zRl x f n sc mo ad u1.2 T2 ∧ zRy f ad u1.2 T2) ∧ T2.1 mo 0 = k9 := by
  obtain ⟨⟨c, hI⟩, m1, m2, m3, hz⟩ := hm
  have e33 : T2.1 mo 33 = S2.1 mo 33 := c.2.2 33 (by decide)
  have e9 : T2.1 mo 9 = S2.1 mo 9 := c.2.2 9 (by decide)
  have e12 : T2.1 (ad 12) = S2.1 (ad 12) := c.2.1 12 (by decide) (by decide)
  have hMI : zMI G2 T2 mo ad := ⟨hM.1.eq c.1, hI, hz, fun z => by
    rw [c.2.1 16 (by decide) (by decide)]
    exact hM.2.2.2 (by rw [← e33]; exact z)⟩
  have bad : k9 ≠ 0 → T2.1 mo 0 = k9 → u1 = (G1, S1) → zCI u1.1 u1.2 x f n sc ia na d ka va o ∧ zMI G2 T2 mo ad ∧ (zRl x f n sc mo ad u1.2 T2 ∧ zRy f ad u1.2 T2) ∧ T2.1 mo 0 = k9 := by
    intro hk e e1
    subst e1
    obtain ⟨t1, t2, t3, t4, t5, t6⟩ := m3 (by rw [e]; exact hk)
    exact ⟨h, hMI, ⟨hR.vw (zVw.refl _ _ _ _ _) ⟨e33, e9, t1, t2, t3, e12⟩, hY.vy (zVy.refl _ _) t4 t5 t6⟩, e⟩
  rcases hw with ⟨rfl, q, k, t, j, i, w1, hq, hk, ht, hj, hi, rfl, rfl, k0, hw1, rfl⟩ | ⟨rfl, k1, e1⟩ | ⟨rfl, k1, e1⟩
  · have e0 : T2.1 mo 0 = 0 := by rw [m1, ← hR.1]; exact k0
    obtain ⟨j', hj', ej, q1, q2, q3, q4, q5, q6⟩ := m2 e0
    have : j = j' := (nI_eq (by omega) (by omega)).mp ej
    subst this
    have hb : ∃ m : Nat, m ≤ 8 ∧ b = nI m := by
      unfold kFrame at k0
      by_cases z : (nI j < 0 ∨ 62 ≤ nI j ∨ b < 1 ∨ 8 < b ∨ (nI i < 0 ∨ 8 ≤ nI i))
      · rw [if_pos z] at k0; cases k0
      · exact zlen8 (fun y => z (Or.inr (Or.inr (Or.inl y)))) (fun y => z (Or.inr (Or.inr (Or.inr (Or.inl y)))))
    obtain ⟨r1, r2, r3, r4, r5⟩ := zCI.frame h (q := q) (k := k) (t := t) (j := j) hq hk ht rfl hb
    refine ⟨r1, hMI, ⟨⟨r2.trans (hR.1.trans e33.symm), r3.trans (hR.2.1.trans e9.symm), fun y hy => ?_, fun y a hy ha => ?_⟩, zRy.frame h hY hq hk ht rfl hj (hw1.trans (zenh_nar he1)) q4 q5 q6⟩, e0⟩
    · rw [r4 y hy, q1, q2, q3, upd, upd, upd]
      by_cases z : y = j
      · rw [if_pos z, if_pos z, if_pos z, if_pos z, if_neg (by decide)]
      · rw [if_neg z, if_neg z, if_neg z, if_neg z]; exact hR.2.2.1 y hy
    · rw [(r5 y hy).1] at ha
      rw [(r5 y hy).2 a ha, e12]; exact hR.2.2.2 y a hy ha
  · exact bad (by decide) (by rw [m1, ← hR.1]; exact k1) e1
  · exact bad (by decide) (by rw [m1, ← hR.1]; exact k1) e1
theorem s_status {G1 G2 : zG} {S1 T1 S2 T2 : zS} {x f n sc ia na d ka va o mo : Nat} {ad : Nat → Nat} {v id b k k9 : Int32} (h : zCI G1 S1 x f n sc ia na d ka va o) (hM : zMI G2 S2 mo ad) (hR : zRl x f n sc mo ad S1 S2) (hw : (k9 = 0 ∧ (∃ q, zfo S1 f id q ∧ kStatus v (zfv S1 q) b k = 0 ∧ zSt G1 S1 T1)) ∨ (k9 = 1 ∧ (∃ q, zfo S1 f id q ∧ kStatus v (zfv S1 q) b k = 1) ∧ T1 = S1)) (hm : (zC mo ad [13, 14, 15] [0] S2 T2 ∧ zI mo ad T2) ∧ ∃ q, zmo S2 ad id q ∧ T2.1 mo 0 = kStatus v q b k) : zCI G1 T1 x f n sc ia na d ka va o ∧ zMI G2 T2 mo ad ∧ zRl x f n sc mo ad T1 T2 ∧ T2.1 mo 0 = k9 := by
  have a := k_status h hw
  have b1 := m_status hM hm
  refine ⟨a.1, b1.1, hR.vw a.2 b1.2, ?_⟩
  obtain ⟨-, q, hq, e⟩ := hm
  rcases hw with ⟨rfl, r, hr, k0, -⟩ | ⟨rfl, ⟨r, hr, k0⟩, -⟩ <;> rw [e, ← hR.fr hr hq] <;> exact k0
theorem s_wake {G1 G2 : zG} {S1 T1 S2 T2 : zS} {x f n sc ia na d ka va o mo : Nat} {ad : Nat → Nat} {v k9 : Int32} (h : zCI G1 S1 x f n sc ia na d ka va o) (hM : zMI G2 S2 mo ad) (hR : zRl x f n sc mo ad S1 S2) (hw : (k9 = 0 ∧ (kWake v = 0 ∧ zSt G1 S1 T1)) ∨ (k9 = 1 ∧ (kWake v = 1) ∧ T1 = S1)) (hm : (zC mo ad [24] [0] S2 T2 ∧ zI mo ad T2) ∧ T2.1 mo 0 = kWake v) : zCI G1 T1 x f n sc ia na d ka va o ∧ zMI G2 T2 mo ad ∧ zRl x f n sc mo ad T1 T2 ∧ T2.1 mo 0 = k9 := by
  have a := k_wake h hw
  have b1 := m_wake hM hm
  refine ⟨a.1, b1.1, hR.vw a.2 b1.2, ?_⟩
  rw [hm.2]
  rcases hw with ⟨rfl, k0, -⟩ | ⟨rfl, k0, -⟩ <;> exact k0
theorem zin8j {v b : Int32} (h : kSpace v b ≠ 0) : kSpace v b = 1 := by
  unfold kSpace at h ⊢
  split
  · rfl
  · rename_i z; rw [if_neg z] at h; exact absurd rfl h
theorem s_space {G1 G2 : zG} {S1 T1 S2 T2 : zS} {x f n sc ia na d ka va o mo : Nat} {ad : Nat → Nat} {v b k9 r2 : Int32} (h : zCI G1 S1 x f n sc ia na d ka va o) (hM : zMI G2 S2 mo ad) (hR : zRl x f n sc mo ad S1 S2) (hw : (k9 = 0 ∧ (∃ (r : Int32) (T9 : zS) (w : Int64), (kSpace v b = 0 ∧ ∃ j nd i q, j < 8 ∧ v = nI j ∧ S1.2.2 n j = some nd ∧ zNd G1 S1 nd i q ∧ r = S1.1 nd 3 ∧ T9 = zpi S1 nd 3 b) ∧ T1 = zpj T9 o 0 w ∧ w = r.toInt64)) ∨ (k9 = 1 ∧ (kSpace v b = 1) ∧ T1 = S1)) (hm : (zC mo ad [12] [0] S2 T2 ∧ zI mo ad T2) ∧ T2.1 mo 0 = kSpace v b ∧ (T2.1 mo 0 = 0 → ∃ j, j < 8 ∧ v = nI j ∧ r2 = S2.1 (ad 12) j ∧ T2.1 (ad 12) = upd (S2.1 (ad 12)) j b) ∧ (¬ T2.1 mo 0 = 0 → T2.1 (ad 12) = S2.1 (ad 12))) : zCI G1 T1 x f n sc ia na d ka va o ∧ zMI G2 T2 mo ad ∧ zRl x f n sc mo ad T1 T2 ∧ T2.1 mo 0 = k9 ∧ (k9 = 0 → T1.2.1 o 0 = r2.toInt64) := by
  obtain ⟨⟨c, hI⟩, m1, m2, m3⟩ := hm
  have e33 : T2.1 mo 33 = S2.1 mo 33 := c.2.2 33 (by decide)
  have e9 : T2.1 mo 9 = S2.1 mo 9 := c.2.2 9 (by decide)
  have a1 : T2.1 (ad 1) = S2.1 (ad 1) := c.2.1 1 (by decide) (by decide)
  have a2 : T2.1 (ad 2) = S2.1 (ad 2) := c.2.1 2 (by decide) (by decide)
  have a3 : T2.1 (ad 3) = S2.1 (ad 3) := c.2.1 3 (by decide) (by decide)
  have hMI : zMI G2 T2 mo ad := ⟨hM.1.eq c.1, hI, by rw [c.2.1 6 (by decide) (by decide)]; exact hM.2.2.1, fun z => by
    rw [c.2.1 16 (by decide) (by decide)]
    exact hM.2.2.2 (by rw [← e33]; exact z)⟩
  rcases hw with ⟨rfl, r, T, w, ⟨k0, j, nd, i, q, hj, rfl, hn, hnd, hr, rfl⟩, rfl, hwr⟩ | ⟨rfl, k1, rfl⟩
  · have e0 : T2.1 mo 0 = 0 := by rw [m1]; exact k0
    obtain ⟨j', hj', ej, q1, q2⟩ := m2 e0
    have : j = j' := (nI_eq (by omega) (by omega)).mp ej
    subst this
    obtain ⟨hX, ho, hi⟩ := h
    obtain ⟨h0, h1, h2, h3, h4, h5, h6, h7, h8, h9⟩ := _root_.id hX
    have ne : ∀ {a' kd' i' : Nat}, zO G1 a' kd' → ¬ (kd' = 3 ∧ i' = 3) → (zpi S1 nd 3 b).1 a' i' = S1.1 a' i' := fun {a'} {kd'} {i'} hb hn' => by
      rw [zpi_at, if_neg (fun c => hn' ⟨?_, c.2⟩)]
      have := hb.2; rw [c.1, hnd.1.2] at this; exact this.symm
    have fe : ∀ y, zFe G1 S1 y → zFe G1 (zpi S1 nd 3 b) y := by
      intro y ⟨k1, t1, g⟩
      refine ⟨k1, t1, g.1, g.2.1, g.2.2.1, ?_, g.2.2.2.2⟩
      obtain ⟨m, g1, g2⟩ := g.2.2.2.1
      exact ⟨m, g1, (ne g.1 (fun c => by cases c.1)).trans g2⟩
    have hC : zCI G1 (zpi S1 nd 3 b) x f n sc ia na d ka va o := ⟨⟨h0, h1, h2, h3, h4, ⟨h5.1, h5.2.1, fun j y hj hy => fe y (h5.2.2 j y hj hy)⟩, h6, h7, h8, fun r y hr hy => fe y (h9 r y hr hy)⟩, ho, hi⟩
    refine ⟨(hC.pj o 0 w).1, hMI, ⟨(ne h0 (fun c => by cases c.1)).trans (hR.1.trans e33.symm), (ne h7.1 (fun c => by cases c.1)).trans (hR.2.1.trans e9.symm), fun y hy => ?_, fun y a hy ha => ?_⟩, e0, fun _ => ?_⟩
    · rw [a1, a2, a3, ← hR.2.2.1 y hy]
      refine zfv_eq (fun z hz => ?_)
      obtain ⟨k1, t1, g⟩ := h5.2.2 y z hy hz
      exact ⟨ne g.1 (fun c => by cases c.1), ne g.1 (fun c => by cases c.1)⟩
    · have ha' : S1.2.2 n y = some a := ha
      show (zpi S1 nd 3 b).1 a 3 = _
      rw [q2, upd, zpi_at]
      by_cases z : y = j
      · subst z
        cases Option.some.inj (hn.symm.trans ha')
        rw [if_pos ⟨rfl, rfl⟩, if_pos rfl]
      · rw [if_neg z, if_neg (fun c => z (hi y j hy hj (by rw [hn, ha', c.1])))]; exact hR.2.2.2 y a hy ha'
    · rw [zpj_at, if_pos ⟨rfl, rfl⟩, hwr, hr, q1, hR.2.2.2 j nd hj hn]
  · have e1 : T2.1 mo 0 = 1 := by rw [m1]; exact k1
    exact ⟨h, hMI, hR.vw (zVw.refl _ _ _ _ _) ⟨e33, e9, a1, a2, a3, m3 (by rw [e1]; decide)⟩, e1, fun z => absurd z (by decide)⟩
theorem s_slot {G1 G2 : zG} {S1 T1 S2 T2 : zS} {x f n sc ia na d ka va o mo : Nat} {ad : Nat → Nat} {id b k9 r2 : Int32} (h : zCI G1 S1 x f n sc ia na d ka va o) (hM : zMI G2 S2 mo ad) (hR : zRl x f n sc mo ad S1 S2) (hw : (k9 = 0 ∧ (∃ (r : Int32) (T9 : zS) (w : Int64), (∃ q, zfo S1 f id q ∧ kSlot (S1.1 x 4) (S1.1 sc 2) (zfv S1 q) b = 0 ∧ r = S1.1 sc 2 ∧ ∃ T, zSt G1 S1 T ∧ T9 = zpi T sc 2 (S1.1 sc 2 + 1)) ∧ T1 = zpj T9 o 0 w ∧ w = r.toInt64)) ∨ (k9 = 1 ∧ (∃ q, zfo S1 f id q ∧ kSlot (S1.1 x 4) (S1.1 sc 2) (zfv S1 q) b = 1) ∧ T1 = S1) ∨ (k9 = 2 ∧ (∃ q, zfo S1 f id q ∧ kSlot (S1.1 x 4) (S1.1 sc 2) (zfv S1 q) b = 2) ∧ T1 = S1)) (hm : (zC mo ad [10, 11] [0, 9] S2 T2 ∧ zI mo ad T2) ∧ ∃ q, zmo S2 ad id q ∧ T2.1 mo 0 = kSlot (S2.1 mo 33) (S2.1 mo 9) q b ∧ (T2.1 mo 0 = 0 → r2 = S2.1 mo 9 ∧ T2.1 mo 9 = S2.1 mo 9 + 1) ∧ (¬ T2.1 mo 0 = 0 → T2.1 mo 9 = S2.1 mo 9)) : zCI G1 T1 x f n sc ia na d ka va o ∧ zMI G2 T2 mo ad ∧ zRl x f n sc mo ad T1 T2 ∧ T2.1 mo 0 = k9 ∧ (k9 = 0 → T1.2.1 o 0 = r2.toInt64) := by
  obtain ⟨⟨c, hI⟩, q, hq, m1, m2, m3⟩ := hm
  have e33 : T2.1 mo 33 = S2.1 mo 33 := c.2.2 33 (by decide)
  have a1 : T2.1 (ad 1) = S2.1 (ad 1) := c.2.1 1 (by decide) (by decide)
  have a2 : T2.1 (ad 2) = S2.1 (ad 2) := c.2.1 2 (by decide) (by decide)
  have a3 : T2.1 (ad 3) = S2.1 (ad 3) := c.2.1 3 (by decide) (by decide)
  have a12 : T2.1 (ad 12) = S2.1 (ad 12) := c.2.1 12 (by decide) (by decide)
  have hMI : zMI G2 T2 mo ad := ⟨hM.1.eq c.1, hI, by rw [c.2.1 6 (by decide) (by decide)]; exact hM.2.2.1, fun z => by
    rw [c.2.1 16 (by decide) (by decide)]
    exact hM.2.2.2 (by rw [← e33]; exact z)⟩
  have bad : k9 ≠ 0 → T2.1 mo 0 = k9 → T1 = S1 → zCI G1 T1 x f n sc ia na d ka va o ∧ zMI G2 T2 mo ad ∧ zRl x f n sc mo ad T1 T2 ∧ T2.1 mo 0 = k9 ∧ (k9 = 0 → T1.2.1 o 0 = r2.toInt64) := by
    intro hk e e1
    subst e1
    exact ⟨h, hMI, hR.vw (zVw.refl _ _ _ _ _) ⟨e33, m3 (by rw [e]; exact hk), a1, a2, a3, a12⟩, e, fun z => absurd z hk⟩
  rcases hw with ⟨rfl, r, T, w, ⟨fr, hfr, k0, hr, U, hU, rfl⟩, rfl, hwr⟩ | ⟨rfl, ⟨fr, hfr, k1⟩, e1⟩ | ⟨rfl, ⟨fr, hfr, k1⟩, e1⟩
  · have e0 : T2.1 mo 0 = 0 := by rw [m1, ← hR.fr hfr hq, ← hR.1, ← hR.2.1]; exact k0
    obtain ⟨q1, q2⟩ := m2 e0
    have hs := h.st hU
    obtain ⟨v1, v2, v3, v4⟩ := hs.2
    obtain ⟨hX, ho, hi⟩ := hs.1
    obtain ⟨h0, h1, h2, h3, h4, h5, h6, h7, h8, h9⟩ := _root_.id hX
    have ne : ∀ {a' kd' i' : Nat}, zO G1 a' kd' → ¬ (kd' = 5 ∧ i' = 2) → (zpi U sc 2 (S1.1 sc 2 + 1)).1 a' i' = U.1 a' i' := fun {a'} {kd'} {i'} hb hn' => by
      rw [zpi_at, if_neg (fun c => hn' ⟨?_, c.2⟩)]
      have := hb.2; rw [c.1, h7.1.2] at this; exact this.symm
    have fe : ∀ y, zFe G1 U y → zFe G1 (zpi U sc 2 (S1.1 sc 2 + 1)) y := by
      intro y ⟨k1, t1, g⟩
      refine ⟨k1, t1, g.1, g.2.1, g.2.2.1, ?_, g.2.2.2.2⟩
      obtain ⟨m, g1, g2⟩ := g.2.2.2.1
      exact ⟨m, g1, (ne g.1 (fun c => by cases c.1)).trans g2⟩
    have hC : zCI G1 (zpi U sc 2 (S1.1 sc 2 + 1)) x f n sc ia na d ka va o := ⟨⟨h0, h1, h2, h3, h4, ⟨h5.1, h5.2.1, fun j y hj hy => fe y (h5.2.2 j y hj hy)⟩, h6, h7, h8, fun r y hr hy => fe y (h9 r y hr hy)⟩, ho, hi⟩
    refine ⟨(hC.pj o 0 w).1, hMI, ⟨((ne h0 (fun c => by cases c.1)).trans v1).trans (hR.1.trans e33.symm), ?_, fun y hy => ?_, fun y a hy ha => ?_⟩, e0, fun _ => ?_⟩
    · show (zpi U sc 2 (S1.1 sc 2 + 1)).1 sc 2 = _
      rw [zpi_at, if_pos ⟨rfl, rfl⟩, q2, hR.2.1]
    · rw [a1, a2, a3, ← hR.2.2.1 y hy, ← v3 y hy]
      refine zfv_eq (fun z hz => ?_)
      obtain ⟨k1, t1, g⟩ := h5.2.2 y z hy hz
      exact ⟨ne g.1 (fun c => by cases c.1), ne g.1 (fun c => by cases c.1)⟩
    · have ha' : S1.2.2 n y = some a := by rw [← (v4 y hy).1]; exact ha
      obtain ⟨a', i', r', g1, g2⟩ := h6.2.2 y hy
      cases Option.some.inj (g1.symm.trans ha)
      show (zpi U sc 2 (S1.1 sc 2 + 1)).1 a 3 = _
      rw [ne g2.1 (fun c => by cases c.1), (v4 y hy).2 a ha', a12]; exact hR.2.2.2 y a hy ha'
    · rw [zpj_at, if_pos ⟨rfl, rfl⟩, hwr, hr, q1, hR.2.1]
  · exact bad (by decide) (by rw [m1, ← hR.fr hfr hq, ← hR.1, ← hR.2.1]; exact k1) e1
  · exact bad (by decide) (by rw [m1, ← hR.fr hfr hq, ← hR.1, ← hR.2.1]; exact k1) e1
