/-- which frame an ID has -/
theorem zfo_at {S : zS} {f j y : Nat} (h : zfo S f (nI j) (some y)) (hj : j < 62) : S.2.2 f j = some y := by
  rcases h with ⟨j', hj', e, hr⟩ | ⟨-, hr⟩
  · have : j = j' := (nI_eq (by omega) (by omega)).mp e
    subst this; exact hr.symm
  · cases hr
theorem v_status {G : zG} {S S' : zS} {x f n sc ia na d ka va o : Nat} {v id b k k9 : Int32} (h : zCI G S x f n sc ia na d ka va o) (hw : (k9 = 0 ∧ (∃ q, zfo S f id q ∧ kStatus v (zfv S q) b k = 0 ∧ zSt G S S')) ∨ (k9 = 1 ∧ (∃ q, zfo S f id q ∧ kStatus v (zfv S q) b k = 1) ∧ S' = S)) : zVy f S S' := by
  rcases hw with ⟨-, q, -, -, hst⟩ | ⟨-, -, rfl⟩
  · exact hst.vy h.1
  · exact zVy.refl _ _
theorem v_disturb {G : zG} {S S' : zS} {x f n sc ia na d ka va o : Nat} {b v k9 : Int32} (h : zCI G S x f n sc ia na d ka va o) (hw : (k9 = 0 ∧ (kDist b v (S.1 d 2) = 0 ∧ zSt G S S')) ∨ (k9 = 1 ∧ (kDist b v (S.1 d 2) = 1) ∧ S' = S) ∨ (k9 = 2 ∧ (kDist b v (S.1 d 2) = 2) ∧ S' = S)) : zVy f S S' := by
  rcases hw with ⟨-, -, hst⟩ | ⟨-, -, rfl⟩ | ⟨-, -, rfl⟩
  · exact hst.vy h.1
  · exact zVy.refl _ _
  · exact zVy.refl _ _
theorem v_wake {G : zG} {S S' : zS} {x f n sc ia na d ka va o : Nat} {v k9 : Int32} (h : zCI G S x f n sc ia na d ka va o) (hw : (k9 = 0 ∧ (kWake v = 0 ∧ zSt G S S')) ∨ (k9 = 1 ∧ (kWake v = 1) ∧ S' = S)) : zVy f S S' := by
  rcases hw with ⟨-, -, hst⟩ | ⟨-, -, rfl⟩
  · exact hst.vy h.1
  · exact zVy.refl _ _
theorem v_byteAt {G : zG} {S S' : zS} {x f n sc ia na d ka va o : Nat} {v id b k9 : Int32} (h : zCI G S x f n sc ia na d ka va o) (hw : (k9 = 0 ∧ (∃ (r : Int32) (T9 : zS) (w : Int64), (T9 = S ∧ ∃ y, zfo S f id (some y)) ∧ S' = zpj T9 o 0 w ∧ w = r.toInt64)) ∨ (k9 = 1 ∧ (True) ∧ S' = S)) : zVy f S S' := by
  rcases hw with ⟨-, r, T, w, ⟨rfl, -⟩, rfl, -⟩ | ⟨-, -, rfl⟩
  · exact (zVy.refl _ _).pj h _
  · exact zVy.refl _ _
theorem v_taken {G : zG} {S S' : zS} {x f n sc ia na d ka va o : Nat} {v id k9 : Int32} (h : zCI G S x f n sc ia na d ka va o) (hw : (k9 = 0 ∧ (∃ (r : Int32) (T9 : zS) (w : Int64), (T9 = S ∧ ∃ y, zfo S f id (some y)) ∧ S' = zpj T9 o 0 w ∧ w = r.toInt64)) ∨ (k9 = 1 ∧ (True) ∧ S' = S)) : zVy f S S' := by
  rcases hw with ⟨-, r, T, w, ⟨rfl, -⟩, rfl, -⟩ | ⟨-, -, rfl⟩
  · exact (zVy.refl _ _).pj h _
  · exact zVy.refl _ _
theorem v_told {G : zG} {S S' : zS} {x f n sc ia na d ka va o : Nat} {v k k9 : Int32} (h : zCI G S x f n sc ia na d ka va o) (hw : (k9 = 0 ∧ (∃ (r : Int32) (T9 : zS) (w : Int64), (kTold v k = 0 ∧ T9 = S ∧ ∃ j nd i q, j < 8 ∧ v = nI j ∧ S.2.2 n j = some nd ∧ zNd G S nd i q ∧ r = ztell S nd k) ∧ S' = zpj T9 o 0 w ∧ w = r.toInt64)) ∨ (k9 = 1 ∧ (kTold v k = 1) ∧ S' = S)) : zVy f S S' := by
  rcases hw with ⟨-, r, T, w, ⟨-, rfl, -⟩, rfl, -⟩ | ⟨-, -, rfl⟩
  · exact (zVy.refl _ _).pj h _
  · exact zVy.refl _ _
theorem v_count {G : zG} {S S' : zS} {x f n sc ia na d ka va o : Nat} {k k9 : Int32} (h : zCI G S x f n sc ia na d ka va o) (hw : (k9 = 0 ∧ (∃ (r : Int32) (T9 : zS) (w : Int64), (kCount k = 0 ∧ T9 = S ∧ r = zcount S x sc d k) ∧ S' = zpj T9 o 0 w ∧ w = r.toInt64)) ∨ (k9 = 1 ∧ (kCount k = 1) ∧ S' = S)) : zVy f S S' := by
  rcases hw with ⟨-, r, T, w, ⟨-, rfl, -⟩, rfl, -⟩ | ⟨-, -, rfl⟩
  · exact (zVy.refl _ _).pj h _
  · exact zVy.refl _ _
theorem v_line {G : zG} {S S' : zS} {x f n sc ia na d ka va o : Nat} {b k9 : Int32} (h : zCI G S x f n sc ia na d ka va o) (hw : (k9 = 0 ∧ (∃ (r : Int32) (T9 : zS) (w : Int64), (kLine b = 0 ∧ T9 = S ∧ r = ((S.2.1 x 6).toUInt64 >>> ((b - 1).toInt64.toUInt64 &&& Int64.toUInt64 63)).toInt64.toInt32 &&& 1) ∧ S' = zpj T9 o 0 w ∧ w = r.toInt64)) ∨ (k9 = 1 ∧ (kLine b = 1) ∧ S' = S)) : zVy f S S' := by
  rcases hw with ⟨-, r, T, w, ⟨-, rfl, -⟩, rfl, -⟩ | ⟨-, -, rfl⟩
  · exact (zVy.refl _ _).pj h _
  · exact zVy.refl _ _
theorem v_checks {G : zG} {S S' : zS} {x f n sc ia na d ka va o : Nat} {id k9 : Int32} (h : zCI G S x f n sc ia na d ka va o) (hw : (k9 = 0 ∧ (∃ (r : Int32) (T9 : zS) (w : Int64), (T9 = S ∧ ∃ y n' : Nat, zfo S f id (some y) ∧ n' ≤ 8 ∧ S.1 y 1 = nI n' ∧ r = S.1 y 3 + 256 * (255 - zsum (zbl (S.2.1 y 5)) (if S.1 y 4 = 0 then 0 else S.1 y 3) n')) ∧ S' = zpj T9 o 0 w ∧ w = r.toInt64)) ∨ (k9 = 1 ∧ (zfo S f id none) ∧ S' = S)) : zVy f S S' := by
  rcases hw with ⟨-, r, T, w, ⟨rfl, -⟩, rfl, -⟩ | ⟨-, -, rfl⟩
  · exact (zVy.refl _ _).pj h _
  · exact zVy.refl _ _
theorem v_space {G : zG} {S S' : zS} {x f n sc ia na d ka va o : Nat} {v b k9 : Int32} (h : zCI G S x f n sc ia na d ka va o) (hw : (k9 = 0 ∧ (∃ (r : Int32) (T9 : zS) (w : Int64), (kSpace v b = 0 ∧ ∃ j nd i q, j < 8 ∧ v = nI j ∧ S.2.2 n j = some nd ∧ zNd G S nd i q ∧ r = S.1 nd 3 ∧ T9 = zpi S nd 3 b) ∧ S' = zpj T9 o 0 w ∧ w = r.toInt64)) ∨ (k9 = 1 ∧ (kSpace v b = 1) ∧ S' = S)) : zVy f S S' := by
  rcases hw with ⟨-, r, T, w, ⟨-, j, nd, i, q, -, -, -, hnd, -, rfl⟩, rfl, -⟩ | ⟨-, -, rfl⟩
  · exact ((zVy.refl _ _).pi h hnd.1 (by decide) _).pj h _
  · exact zVy.refl _ _
theorem v_slot {G : zG} {S S' : zS} {x f n sc ia na d ka va o : Nat} {id b k9 : Int32} (h : zCI G S x f n sc ia na d ka va o) (hw : (k9 = 0 ∧ (∃ (r : Int32) (T9 : zS) (w : Int64), (∃ q, zfo S f id q ∧ kSlot (S.1 x 4) (S.1 sc 2) (zfv S q) b = 0 ∧ r = S.1 sc 2 ∧ ∃ T, zSt G S T ∧ T9 = zpi T sc 2 (S.1 sc 2 + 1)) ∧ S' = zpj T9 o 0 w ∧ w = r.toInt64)) ∨ (k9 = 1 ∧ (∃ q, zfo S f id q ∧ kSlot (S.1 x 4) (S.1 sc 2) (zfv S q) b = 1) ∧ S' = S) ∨ (k9 = 2 ∧ (∃ q, zfo S f id q ∧ kSlot (S.1 x 4) (S.1 sc 2) (zfv S q) b = 2) ∧ S' = S)) : zVy f S S' := by
  rcases hw with ⟨-, r, T, w, ⟨fr, -, -, -, U, hU, rfl⟩, rfl, -⟩ | ⟨-, -, rfl⟩ | ⟨-, -, rfl⟩
  · exact ((hU.vy h.1).pi h h.1.2.2.2.2.2.2.2.1.1 (by decide) _).pj h _
  · exact zVy.refl _ _
  · exact zVy.refl _ _
theorem v_run {G : zG} {S S' : zS} {x f n sc ia na d ka va o : Nat} {v k9 : Int32} (h : zCI G S x f n sc ia na d ka va o) (hw : (k9 = 0 ∧ (∃ (r : Int32) (T9 : zS) (w : Int64), (kRun (S.1 x 4) v = 0 ∧ zSu G x S T9 ∧ zX G T9 x f n sc ia na d ka va ∧ T9.1 x 4 = S.1 x 4 + v ∧ r = T9.1 x 4) ∧ S' = zpj T9 o 0 w ∧ w = r.toInt64)) ∨ (k9 = 1 ∧ (kRun (S.1 x 4) v = 1) ∧ S' = S) ∨ (k9 = 2 ∧ (kRun (S.1 x 4) v = 2) ∧ S' = S)) : zVy f S S' := by
  rcases hw with ⟨-, r, T, w, ⟨-, hu, -⟩, rfl, -⟩ | ⟨-, -, rfl⟩ | ⟨-, -, rfl⟩
  · exact (hu.vy h.1).pj h _
  · exact zVy.refl _ _
  · exact zVy.refl _ _
theorem s_write {G1 G2 : zG} {S1 T1 S2 T2 : zS} {x f n sc ia na d ka va o mo : Nat} {ad : Nat → Nat} {id b v k9 r2 : Int32} (h : zCI G1 S1 x f n sc ia na d ka va o) (hM : zMI G2 S2 mo ad) (hR : zRl x f n sc mo ad S1 S2) (hY : zRy f ad S1 S2) (hw : (k9 = 0 ∧ (∃ (r : Int32) (T9 : zS) (w : Int64), (∃ y, zfo S1 f id (some y) ∧ zO G1 y 1 ∧ kWrite (zfv S1 (some y)) b v = 0 ∧ r = zbyte (S1.2.1 y 5) b ∧ T9 = zpj S1 y 5 (S1.2.1 y 5 ^^^ ((zbyte (S1.2.1 y 5) b ^^^ v).toInt64 <<< ((8 * b).toInt64 &&& 63)))) ∧ T1 = zpj T9 o 0 w ∧ w = r.toInt64)) ∨ (k9 = 1 ∧ (∃ q, zfo S1 f id q ∧ kWrite (zfv S1 q) b v = 1) ∧ T1 = S1)) (hm : (zC mo ad [5] [0] S2 T2 ∧ zI mo ad T2) ∧ ∃ q, zmo S2 ad id q ∧ T2.1 mo 0 = kWrite q b v ∧ (T2.1 mo 0 = 0 → ∃ j i, j < 62 ∧ i < 8 ∧ id = nI j ∧ b = nI i ∧ r2 = S2.1 (ad 5) (8 * j + i) ∧ T2.1 (ad 5) = upd (S2.1 (ad 5)) (8 * j + i) v) ∧ (¬ T2.1 mo 0 = 0 → T2.1 (ad 5) = S2.1 (ad 5))) : zCI G1 T1 x f n sc ia na d ka va o ∧ zMI G2 T2 mo ad ∧ (zRl x f n sc mo ad T1 T2 ∧ zRy f ad T1 T2) ∧ T2.1 mo 0 = k9 ∧ (k9 = 0 → T1.2.1 o 0 = r2.toInt64) := by
  have a := k_write h hw
  have b1 := m_write hM hm
  have hR2 := hR.vw a.2 b1.2
  obtain ⟨⟨c, hI⟩, q, hq, m1, m2, m3⟩ := hm
  have e4 : T2.1 (ad 4) = S2.1 (ad 4) := c.2.1 4 (by decide) (by decide)
  have e6 : T2.1 (ad 6) = S2.1 (ad 6) := c.2.1 6 (by decide) (by decide)
  rcases hw with ⟨rfl, r, T, w, ⟨y, hfo, hO, k0, hr, rfl⟩, rfl, hwr⟩ | ⟨rfl, ⟨fr, hfr, k1⟩, rfl⟩
  · have e0 : T2.1 mo 0 = 0 := by rw [m1, ← hR.fr hfo hq]; exact k0
    obtain ⟨j, i, hj, hi, rfl, rfl, q1, q2⟩ := m2 e0
    have hy := zfo_at hfo hj
    have hv : ¬ (v < 0 ∨ ¬ v ≤ 255) := fun z => absurd ((if_pos (Or.inr z)).symm.trans k0) (by decide)
    have hv1 : v ≤ 255 := Classical.byContradiction (fun z => hv (Or.inr z))
    refine ⟨a.1, b1.1, ⟨hR2, fun j' y' hj' hy' => ?_⟩, e0, fun _ => ?_⟩
    · have hy2 : S1.2.2 f j' = some y' := hy'
      obtain ⟨h0, h1, h2, h3, h4⟩ := hY j' y' hj' hy2
      obtain ⟨g0, g1, -⟩ := hY j y hj hy
      have no : y' ≠ o := zOne (h.fk hj' hy2) h.2.1.1 (by decide)
      refine ⟨h0, fun t ht => ?_, fun t ht => by rw [e6]; exact h2 t ht, h3, by rw [e4]; exact h4⟩
      rw [zpj_at, if_neg (fun c => no c.1), zpj_at, q2, upd]
      by_cases z : y' = y
      · subst z
        have : j' = j := (nI_eq (by omega) (by omega)).mp (h0.symm.trans g0)
        subst this
        rw [if_pos ⟨rfl, rfl⟩, zb_put _ hi ht (fun z => hv (Or.inl z)) hv1]
        by_cases z2 : t = i
        · subst z2; rw [if_pos rfl, if_pos rfl]
        · rw [if_neg z2, if_neg (by omega)]; exact h1 t ht
      · rw [if_neg (fun c => z c.1)]
        have : j' ≠ j := fun e => z (by subst e; exact Option.some.inj (hy2.symm.trans hy))
        rw [if_neg (by omega)]; exact h1 t ht
    · rw [zpj_at, if_pos ⟨rfl, rfl⟩, hwr, hr, q1, (hY j y hj hy).2.1 i hi]
  · have e1 : T2.1 mo 0 = 1 := by rw [m1, ← hR.fr hfr hq]; exact k1
    exact ⟨a.1, b1.1, ⟨hR2, hY.vy (zVy.refl _ _) e4 (m3 (by rw [e1]; decide)) e6⟩, e1, fun z => absurd z (by decide)⟩
theorem znar0 {b : Int32} (h : b = 0 ∨ b = 1) : ¬ vp_nar .boolean b = 0 ↔ ¬ b = 0 := by
  rcases h with h | h <;> subst h <;> decide
theorem s_listen {G1 G2 : zG} {S1 T1 S2 T2 : zS} {x f n sc ia na d ka va o mo : Nat} {ad : Nat → Nat} {v id b k9 r2 : Int32} (h : zCI G1 S1 x f n sc ia na d ka va o) (hM : zMI G2 S2 mo ad) (hR : zRl x f n sc mo ad S1 S2) (hY : zRy f ad S1 S2) (hw : (k9 = 0 ∧ (∃ (r : Int32) (T9 : zS) (w : Int64), (∃ y ka' ta' j, zfo S1 f id (some y) ∧ zFr G1 S1 y ka' ta' ∧ j < 8 ∧ v = nI j ∧ kListen v (zfv S1 (some y)) = 0 ∧ ((r = 1 ∧ zheard (S1.1 y 6) (nI j)) ∨ (r = 0 ∧ ¬ zheard (S1.1 y 6) (nI j))) ∧ ((¬ b = 0 ∧ ((zheard (S1.1 y 6) (nI j) ∧ T9 = S1) ∨ (¬ zheard (S1.1 y 6) (nI j) ∧ T9 = zpi (zpj (zpi S1 y 6 (S1.1 y 6 ||| (1 <<< (nI j &&& 31)))) ka' j 0) ta' j 0))) ∨ (b = 0 ∧ T9 = zpi S1 y 6 (S1.1 y 6 &&& ((1 <<< (nI j &&& 31)) ^^^ (-1)))))) ∧ T1 = zpj T9 o 0 w ∧ ((¬ r = 0 ∧ w = 1) ∨ (r = 0 ∧ w = 0)))) ∨ (k9 = 1 ∧ (∃ q, zfo S1 f id q ∧ kListen v (zfv S1 q) = 1) ∧ T1 = S1)) (hm : (zC mo ad [6, 7, 8] [0] S2 T2 ∧ zI mo ad T2) ∧ ∃ q, zmo S2 ad id q ∧ T2.1 mo 0 = kListen v q ∧ (T2.1 mo 0 = 0 → ∃ j i, j < 62 ∧ i < 8 ∧ id = nI j ∧ v = nI i ∧ r2 = S2.1 (ad 6) (62 * i + j) ∧ T2.1 (ad 6) = upd (S2.1 (ad 6)) (62 * i + j) (vp_nar .boolean b)) ∧ (¬ T2.1 mo 0 = 0 → T2.1 (ad 6) = S2.1 (ad 6)) ∧ zZr (T2.1 (ad 6))) (hb : b = 0 ∨ b = 1) : zCI G1 T1 x f n sc ia na d ka va o ∧ zMI G2 T2 mo ad ∧ (zRl x f n sc mo ad T1 T2 ∧ zRy f ad T1 T2) ∧ T2.1 mo 0 = k9 ∧ (k9 = 0 → T1.2.1 o 0 = if r2 = 0 then 0 else 1) := by
  have a := k_listen h hw
  obtain ⟨⟨c, hI⟩, q, hq, m1, m2, m3, hz⟩ := hm
  have b1 := m_listen hM ⟨⟨c, hI⟩, hz⟩
  have hR2 := hR.vw a.2 b1.2
  have e4 : T2.1 (ad 4) = S2.1 (ad 4) := c.2.1 4 (by decide) (by decide)
  have e5 : T2.1 (ad 5) = S2.1 (ad 5) := c.2.1 5 (by decide) (by decide)
  rcases hw with ⟨rfl, r, T, w, ⟨y, k1, t1, i, hfo, hf, hi, rfl, k0, hr, hs⟩, rfl, hwr⟩ | ⟨rfl, ⟨fr, hfr, k1⟩, rfl⟩
  · have e0 : T2.1 mo 0 = 0 := by rw [m1, ← hR.fr hfo hq]; exact k0
    obtain ⟨j, i', hj, hi', rfl, ei, q1, q2⟩ := m2 e0
    have : i = i' := (nI_eq (by omega) (by omega)).mp ei
    subst this
    have hy := zfo_at hfo hj
    have key : (∀ y' k', ¬ (y' = y ∧ k' = 6) → zO G1 y' 1 → T.1 y' k' = S1.1 y' k') ∧ (∀ y', zO G1 y' 1 → T.2.1 y' 5 = S1.2.1 y' 5) ∧ T.2.2 = S1.2.2 ∧ ∀ t, t < 8 → (zheard (T.1 y 6) (nI t) ↔ (if t = i then ¬ b = 0 else zheard (S1.1 y 6) (nI t))) := by
      rcases hs with ⟨hb0, ⟨hh, rfl⟩ | ⟨hh, rfl⟩⟩ | ⟨hb0, rfl⟩
      · refine ⟨fun _ _ _ _ => rfl, fun _ _ => rfl, rfl, fun t ht => ?_⟩
        by_cases z : t = i
        · subst z; rw [if_pos rfl]; exact ⟨fun _ => hb0, fun _ => hh⟩
        · rw [if_neg z]
      · have nt : ∀ y', zO G1 y' 1 → y' ≠ t1 := fun y' hy' => zOne hy' hf.2.2.2.2.2.2.1 (by decide)
        have nk : ∀ y', zO G1 y' 1 → y' ≠ k1 := fun y' hy' => zOne hy' hf.2.2.2.2.1 (by decide)
        refine ⟨fun y' k' hn ho => ?_, fun y' ho => ?_, rfl, fun t ht => ?_⟩
        · rw [zpi_at, if_neg (fun c => nt y' ho c.1)]
          show (zpi S1 y 6 _).1 y' k' = _
          rw [zpi_at, if_neg hn]
        · show (zpj (zpi S1 y 6 _) k1 i 0).2.1 y' 5 = _
          rw [zpj_at, if_neg (fun c => nk y' ho c.1)]; rfl
        · rw [zpi_at, if_neg (fun c => nt y hf.1 c.1)]
          show zheard ((zpi S1 y 6 _).1 y 6) (nI t) ↔ _
          rw [zpi_at, if_pos ⟨rfl, rfl⟩, zh_set _ hi ht]
          by_cases z : t = i
          · rw [if_pos z]; exact ⟨fun _ => hb0, fun _ => Or.inl z⟩
          · rw [if_neg z]; exact ⟨fun q => q.resolve_left z, Or.inr⟩
      · refine ⟨fun y' k' hn ho => ?_, fun y' ho => rfl, rfl, fun t ht => ?_⟩
        · rw [zpi_at, if_neg hn]
        · rw [zpi_at, if_pos ⟨rfl, rfl⟩, zh_clr _ hi ht]
          by_cases z : t = i
          · rw [if_pos z]; exact ⟨fun q => absurd z q.1, fun q => absurd hb0 q⟩
          · rw [if_neg z]; exact ⟨fun q => q.2, fun q => ⟨z, q⟩⟩
    obtain ⟨x1, x2, x3, x4⟩ := key
    refine ⟨a.1, b1.1, ⟨hR2, fun j' y' hj' hy' => ?_⟩, e0, fun _ => ?_⟩
    · have hy2 : S1.2.2 f j' = some y' := by rw [← x3]; exact hy'
      obtain ⟨h0, h1, h2, h3, h4⟩ := hY j' y' hj' hy2
      obtain ⟨g0, g1, -⟩ := hY j y hj hy
      have ho := h.fk hj' hy2
      have no : y' ≠ o := zOne ho h.2.1.1 (by decide)
      refine ⟨(x1 y' 0 (fun c => by cases c.2) ho).trans h0, fun t ht => ?_, fun t ht => ?_, (x1 y' 3 (fun c => by cases c.2) ho).trans h3, (x1 y' 4 (fun c => by cases c.2) ho).trans (by rw [e4]; exact h4)⟩
      · rw [zpj_at, if_neg (fun c => no c.1), x2 y' ho, e5]; exact h1 t ht
      · show zheard (T.1 y' 6) (nI t) ↔ _
        rw [q2, upd]
        by_cases z : y' = y
        · subst z
          have : j' = j := (nI_eq (by omega) (by omega)).mp (h0.symm.trans g0)
          subst this
          rw [x4 t ht]
          by_cases z2 : t = i
          · subst z2; rw [if_pos rfl, if_pos rfl, znar0 hb]
          · rw [if_neg z2, if_neg (by omega)]; exact h2 t ht
        · have : j' ≠ j := fun e => z (by subst e; exact Option.some.inj (hy2.symm.trans hy))
          rw [x1 y' 6 (fun c => z c.1) ho, if_neg (by omega)]; exact h2 t ht
    · rw [zpj_at, if_pos ⟨rfl, rfl⟩]
      have hh := (hY j y hj hy).2.2.1 i hi
      rw [← q1] at hh
      rcases hr with ⟨rfl, z⟩ | ⟨rfl, z⟩
      · rw [if_neg (hh.mp z)]
        rcases hwr with ⟨-, q⟩ | ⟨q, -⟩
        · exact q
        · exact absurd q (by decide)
      · rw [if_pos (Classical.byContradiction (fun q => z (hh.mpr q)))]
        rcases hwr with ⟨q, -⟩ | ⟨-, q⟩
        · exact absurd rfl q
        · exact q
  · have e1 : T2.1 mo 0 = 1 := by rw [m1, ← hR.fr hfr hq]; exact k1
    exact ⟨a.1, b1.1, ⟨hR2, hY.vy (zVy.refl _ _) e4 e5 (m3 (by rw [e1]; decide))⟩, e1, fun z => absurd z (by decide)⟩
theorem zpid_eq : ∀ j, j < 62 → zpid (nI j) = zpidm (nI j) := by
  have h : ∀ j : Fin 62, zpid (nI j.1) = zpidm (nI j.1) := by decide +kernel
  exact fun j hj => h ⟨j, hj⟩
theorem s_checks {G1 G2 : zG} {S1 T1 S2 T2 : zS} {x f n sc ia na d ka va o mo : Nat} {ad : Nat → Nat} {id k9 r2 : Int32} (h : zCI G1 S1 x f n sc ia na d ka va o) (hM : zMI G2 S2 mo ad) (hR : zRl x f n sc mo ad S1 S2) (hY : zRy f ad S1 S2) (hw : (k9 = 0 ∧ (∃ (r : Int32) (T9 : zS) (w : Int64), (T9 = S1 ∧ ∃ y n' : Nat, zfo S1 f id (some y) ∧ n' ≤ 8 ∧ S1.1 y 1 = nI n' ∧ r = S1.1 y 3 + 256 * (255 - zsum (zbl (S1.2.1 y 5)) (if S1.1 y 4 = 0 then 0 else S1.1 y 3) n')) ∧ T1 = zpj T9 o 0 w ∧ w = r.toInt64)) ∨ (k9 = 1 ∧ (zfo S1 f id none) ∧ T1 = S1)) (hm : (zC mo ad [] [0] S2 T2 ∧ zI mo ad T2) ∧ ∃ q, zmo S2 ad id q ∧ T2.1 mo 0 = kChecks q ∧ (T2.1 mo 0 = 0 → ∃ j L, j < 62 ∧ L ≤ 8 ∧ id = nI j ∧ S2.1 (ad 2) j = nI L ∧ r2 = zpidm (nI j) + 256 * (255 - zsum (fun k => S2.1 (ad 5) (8 * j + k)) (if zenh (S2.1 (ad 4) j) j = 0 then 0 else zpidm (nI j)) L))) : zCI G1 T1 x f n sc ia na d ka va o ∧ zMI G2 T2 mo ad ∧ (zRl x f n sc mo ad T1 T2 ∧ zRy f ad T1 T2) ∧ T2.1 mo 0 = k9 ∧ (k9 = 0 → T1.2.1 o 0 = r2.toInt64) := by
  have a := k_checks h hw
  have av := v_checks h hw
  have b1 := m_checks hM hm
  have hR2 := hR.vw a.2 b1.2
  obtain ⟨⟨c, hI⟩, q, hq, m1, m2⟩ := hm
  have hY2 := hY.vy av (c.2.1 4 (by decide) (by decide)) (c.2.1 5 (by decide) (by decide)) (c.2.1 6 (by decide) (by decide))
  refine ⟨a.1, b1.1, ⟨hR2, hY2⟩, ?_⟩
  rcases hw with ⟨rfl, r, T, w, ⟨rfl, y, L', hfo, hL', eL', hr⟩, rfl, hwr⟩ | ⟨rfl, hfo, rfl⟩
  · have hfr := hR.fr hfo hq
    have e0 : T2.1 mo 0 = 0 := by rw [m1, ← hfr]; rfl
    refine ⟨e0, fun _ => ?_⟩
    obtain ⟨j, L, hj, hL, rfl, eL, q1⟩ := m2 e0
    have hy := zfo_at hfo hj
    obtain ⟨h0, h1, h2, h3, h4⟩ := hY j y hj hy
    have hl : L' = L := by
      have z := hR.2.2.1 j hj
      rw [hy] at z
      by_cases t : S2.1 (ad 1) j = 0
      · rw [if_pos t] at z; cases z
      · rw [if_neg t] at z
        have z1 : T.1 y 1 = S2.1 (ad 2) j := congrArg Prod.fst (Option.some.inj z)
        exact (nI_eq (by omega) (by omega)).mp (eL'.symm.trans (z1.trans eL))
    subst hl
    rw [zpj_at, if_pos ⟨rfl, rfl⟩, hwr, hr, q1, h3, h4, zpid_eq j hj, zsum_congr (g := fun k => S2.1 (ad 5) (8 * j + k)) (fun k hk => by rw [zbl_eq _ (by omega)]; exact h1 k (by omega))]
  · have e1 : T2.1 mo 0 = 1 := by rw [m1, ← hR.fr hfo hq]; rfl
    exact ⟨e1, fun z => absurd z (by decide)⟩
