/-- the bytes of the frame i are 0, k of them; the others are as they were -/
def zB5 (R R' : Nat → Int32) (i k : Nat) : Prop := (∀ t, t < k → R' (8 * i + t) = 0) ∧ ∀ t, (t < 8 * i ∨ 8 * i + 8 ≤ t) → R' t = R t
theorem zB5.z (R : Nat → Int32) (i : Nat) : zB5 R R i 0 := ⟨fun t h => absurd h (by omega), fun _ _ => rfl⟩
theorem zB5.step {R R' : Nat → Int32} {i k : Nat} (h : zB5 R R' i k) (hk : k < 8) : zB5 R (upd R' (8 * i + k) 0) i (k + 1) := by
  refine ⟨fun t ht => ?_, fun t ht => ?_⟩
  · by_cases c : t = k
    · subst c; exact zupd_s _ _ _
    · rw [zupd_n _ (by omega)]; exact h.1 t (by omega)
  · rw [zupd_n _ (by omega)]; exact h.2 t ht
/-- k nodes don't listen to the frame i; the others are as they were -/
def zL6 (R R' : Nat → Int32) (i k : Nat) : Prop := (∀ n, n < k → R' (62 * n + i) = 0) ∧ ∀ t, (∀ n, t ≠ 62 * n + i) → R' t = R t
theorem zL6.z (R : Nat → Int32) (i : Nat) : zL6 R R i 0 := ⟨fun t h => absurd h (by omega), fun _ _ => rfl⟩
theorem zL6.step {R R' : Nat → Int32} {i k : Nat} (h : zL6 R R' i k) : zL6 R (upd R' (62 * k + i) (vp_nar .boolean 0)) i (k + 1) := by
  refine ⟨fun t ht => ?_, fun t ht => ?_⟩
  · by_cases c : t = k
    · subst c; rw [zupd_s]; rfl
    · rw [zupd_n _ (by omega)]; exact h.1 t (by omega)
  · rw [zupd_n _ (ht k)]; exact h.2 t ht
set_option maxHeartbeats 4000000 in
set_option maxRecDepth 100000 in
theorem c_X7_frame (l : Launch) (dC : Nat → ClassId) (dI : Nat → Nat → Nat) (cy : Nat → ClassId) (G : zG) (S : zS) (sz : Nat) (mo : Nat) (ad : Nat → Nat) (id b v e1 : Int32) (hM : zM G S mo ad) (hI : zI mo ad S) (hz0 : zZr (S.1 (ad 6))) (hat0 : S.1 mo 33 ≤ 0 → ∀ n, n < 8 → S.1 (ad 16) n = 1) : Met l yX7_frame wsX7_frame ({ frames := 2, cells := 0, slots := 0, locals := 42 }) (zP dC dI cy [.ref mo, .int id, .int b, .int v, .int e1] G S sz) (va_Qv (fun S' => (zC mo ad [1, 2, 3, 4, 5, 6, 13] [0] S S' ∧ zI mo ad S') ∧ S'.1 mo 0 = kFrame (S.1 mo 33) id b v ∧ (S'.1 mo 0 = 0 → ∃ j, j < 62 ∧ id = nI j ∧ S'.1 (ad 1) = upd (S.1 (ad 1)) j (vp_nar .boolean 1) ∧ S'.1 (ad 2) = upd (S.1 (ad 2)) j b ∧ S'.1 (ad 3) = upd (S.1 (ad 3)) j v ∧ S'.1 (ad 4) = upd (S.1 (ad 4)) j (vp_nar .boolean e1) ∧ zB5 (S.1 (ad 5)) (S'.1 (ad 5)) j 8 ∧ zL6 (S.1 (ad 6)) (S'.1 (ad 6)) j 8) ∧ (¬ S'.1 mo 0 = 0 → S'.1 (ad 1) = S.1 (ad 1) ∧ S'.1 (ad 2) = S.1 (ad 2) ∧ S'.1 (ad 3) = S.1 (ad 3) ∧ S'.1 (ad 4) = S.1 (ad 4) ∧ S'.1 (ad 5) = S.1 (ad 5) ∧ S'.1 (ad 6) = S.1 (ad 6)) ∧ zZr (S'.1 (ad 6))) (zB dC dI cy (zA cy G S sz) G) (zA cy G S sz)) 0 0 (zA cy G S sz) := by
  refine Met.ofW (cc := cX7_frame) (maxL := 6) (ret := none) (by decide) rfl ?_
  intro p e s m args below meth c s₁ B hml hv
  obtain ⟨rfl, hsz, hP, hK, hD0, hN⟩ := hv
  have hx := B.exec
  have hb := B.bytes
  have hr := B.returns
  have hts := atoms_spec (ws := wsX7_frame) B.pre
  have hown : s.vm.findClass RX7 = some m.cls := findClass_of_methodNamed B.named
  have hlocks := B.notSynchronized
  subst hsz
  have hD : va_D (zA cy G S s.heap.size) (zW cy G S) := hD0.self
  generalize hAe : zA cy G S s.heap.size = A at hD ⊢
  have hA : ∀ q : Nat, s.heap.size ≤ q → A q := fun q h => by rw [← hAe]; exact Or.inr h
  have hS : va_S A s.heap s.heap [] := va_S.rf
  have hst := zC.refl mo ad [1, 2, 3, 4, 5, 6, 13] [0] S
  have hl := lv_entry ([.ref mo, .int id, .int b, .int v, .int e1]) (n := 6) (Nat.le_of_ble_eq_true rfl)
  rw [lg_entry_eq]
  generalize (lg_sl ([.ref mo, .int id, .int b, .int v, .int e1]) ++ List.replicate (6 - (lg_sl ([.ref mo, .int id, .int b, .int v, .int e1])).length) Slot.unset).toArray = ls at hl ⊢
  have hl : lv_has ls 6 [(0, .ref mo), (1, .int id), (2, .int b), (3, .int v), (4, .int e1)] := hl
  have hi7 : ∀ w ∈ wsX70, w ∈ wsX7_frame := by decide +kernel
  refine lv_aload_n hx hb dX7_frame_0 rfl (lv_at hl 0 rfl) ?_
  refine lv_iload_n hx hb dX7_frame_1 rfl (lv_at hl 1 rfl) ?_
  refine lv_iconst (v := 0) hx hb dX7_frame_2 (by decide) ?_
  refine lv_bipush (v := 61) hx hb dX7_frame_3 (by decide) ?_
  refine vp_callSi (va_Run.run (va_runS (As := [.int id, .int 0, .int 61]) (rest := [.ref mo]) ⟨hx, hb, hml, hown, hts⟩ (c_X7_isIn l id 0 61) (va_cwS 3 hts gX7_frame_X7_isIn rfl rfl rfl (by decide +kernel) ⟨Nat.le_of_ble_eq_true rfl, Nat.le_of_ble_eq_true rfl⟩) zpreS0 rfl rfl hl.1 rfl (lv_room (Nat.le_of_ble_eq_true rfl)) dX7_frame_5 ⟨Nat.le_of_ble_eq_true rfl, Nat.le_of_ble_eq_true rfl⟩)) (fun r1 hr1 => ?_)
  refine lv_if_eq (tgt := 28) hx hb dX7_frame_8 (by decide) (fun c2 => ?_) (fun c2 => ?_)
  · skip
    refine lv_iconst (v := 1) hx hb dX7_frame_28 (by decide) ?_
    refine lv_goto (tgt := 44) hx hb dX7_frame_29 (by decide) ?_
    refine zputi (ci := 7) (v := 1) (ty := .int) (C := RX7) (T := TX7) (N := 42) hx hb hts hi7 tyX7 tyX7_ok nmX7 hown hK hP hD hS hM.1 rfl rfl 0 (by decide) (hts (.fieldLink RX7 117 "LinClusterModel" "thrown" "I") (by decide +kernel)) (fun _ h9 => h9) rfl (by decide +kernel) rfl rfl (Nat.le_of_ble_eq_true rfl) rfl dX7_frame_44 (fun H locs hP hD hS => ?_)
    have rw3 := (zpi_off S (hM.mo (i := 1) (by decide)) 0 1).trans (rfl : S.1 (ad 1) = S.1 (ad 1))
    have rw4 := (zpi_off S (hM.mo (i := 2) (by decide)) 0 1).trans (rfl : S.1 (ad 2) = S.1 (ad 2))
    have rw5 := (zpi_off S (hM.mo (i := 3) (by decide)) 0 1).trans (rfl : S.1 (ad 3) = S.1 (ad 3))
    have rw6 := (zpi_off S (hM.mo (i := 4) (by decide)) 0 1).trans (rfl : S.1 (ad 4) = S.1 (ad 4))
    have rw7 := (zpi_off S (hM.mo (i := 5) (by decide)) 0 1).trans (rfl : S.1 (ad 5) = S.1 (ad 5))
    have rw8 := (zpi_off S (hM.mo (i := 6) (by decide)) 0 1).trans (rfl : S.1 (ad 6) = S.1 (ad 6))
    have hz9 : zZr ((zpi S mo 0 1).1 (ad 6)) := by rw [zpi_off S (hM.mo (i := 6) (by decide))]; exact hz0
    have hst := zC.pf hM hst (k := 0) (by decide) 1
    have hI := hI.ffree hM (k := 0) (by decide) 1
    have kn10 := zpi_s S mo 0 1
    refine lv_aload_n hx hb dX7_frame_47 rfl (lv_at hl 0 rfl) ?_
    refine zget (ci := 7) (C := RX7) (T := TX7) (N := 42) hx hb hts hi7 hown hK hP hM.1 rfl rfl 0 (by decide) (hts (.fieldLink RX7 117 "LinClusterModel" "thrown" "I") (by decide +kernel)) (fun _ h9 => h9) rfl dX7_frame_48 ?_
    refine lv_topi (fun v11 ev11 => ?_)
    obtain rfl : v11 = 1 := ev11.trans kn10
    refine lv_if_le (tgt := 55) hx hb dX7_frame_51 (by decide) (fun c12 => ?_) (fun c12 => ?_)
    · exact absurd c12 (by decide)
    · skip
      exact W.vret hx hb hr (fun t ht hW => ⟨⟨(zpi S mo 0 1), rfl, ⟨⟨hst, hI⟩, ⟨by rw [kn10]; exact (if_pos (((zii0 hr1 c2)).elim (fun z9 => Or.inl z9) (fun z9 => Or.inr (Or.inl ((zcv (a := 61) (b := 62) (by decide)).mp z9))))).symm, fun z9 => absurd (kn10.symm.trans z9) (by decide), fun _ => ⟨rw3, rw4, rw5, rw6, rw7, rw8⟩, hz9⟩⟩, by rw [ht]; exact hP, va_K.moved hW.alike hK, hD⟩, hS.F ht⟩) hS.2.2 dX7_frame_54
  · skip
    obtain ⟨i8, hi8, rfl⟩ := zin61 hr1 c2
    refine lv_iload_n hx hb dX7_frame_11 rfl (lv_at hl 2 rfl) ?_
    refine lv_iconst (v := 1) hx hb dX7_frame_12 (by decide) ?_
    refine lv_bipush (v := 8) hx hb dX7_frame_13 (by decide) ?_
    refine vp_callSi (va_Run.run (va_runS (As := [.int b, .int 1, .int 8]) (rest := [.ref mo]) ⟨hx, hb, hml, hown, hts⟩ (c_X7_isIn l b 1 8) (va_cwS 3 hts gX7_frame_X7_isIn rfl rfl rfl (by decide +kernel) ⟨Nat.le_of_ble_eq_true rfl, Nat.le_of_ble_eq_true rfl⟩) zpreS0 rfl rfl hl.1 rfl (lv_room (Nat.le_of_ble_eq_true rfl)) dX7_frame_15 ⟨Nat.le_of_ble_eq_true rfl, Nat.le_of_ble_eq_true rfl⟩)) (fun r13 hr13 => ?_)
    refine lv_if_eq (tgt := 28) hx hb dX7_frame_18 (by decide) (fun c14 => ?_) (fun c14 => ?_)
    · skip
      refine lv_iconst (v := 1) hx hb dX7_frame_28 (by decide) ?_
      refine lv_goto (tgt := 44) hx hb dX7_frame_29 (by decide) ?_
      refine zputi (ci := 7) (v := 1) (ty := .int) (C := RX7) (T := TX7) (N := 42) hx hb hts hi7 tyX7 tyX7_ok nmX7 hown hK hP hD hS hM.1 rfl rfl 0 (by decide) (hts (.fieldLink RX7 117 "LinClusterModel" "thrown" "I") (by decide +kernel)) (fun _ h9 => h9) rfl (by decide +kernel) rfl rfl (Nat.le_of_ble_eq_true rfl) rfl dX7_frame_44 (fun H locs hP hD hS => ?_)
      have rw15 := (zpi_off S (hM.mo (i := 1) (by decide)) 0 1).trans (rfl : S.1 (ad 1) = S.1 (ad 1))
      have rw16 := (zpi_off S (hM.mo (i := 2) (by decide)) 0 1).trans (rfl : S.1 (ad 2) = S.1 (ad 2))
      have rw17 := (zpi_off S (hM.mo (i := 3) (by decide)) 0 1).trans (rfl : S.1 (ad 3) = S.1 (ad 3))
      have rw18 := (zpi_off S (hM.mo (i := 4) (by decide)) 0 1).trans (rfl : S.1 (ad 4) = S.1 (ad 4))
      have rw19 := (zpi_off S (hM.mo (i := 5) (by decide)) 0 1).trans (rfl : S.1 (ad 5) = S.1 (ad 5))
      have rw20 := (zpi_off S (hM.mo (i := 6) (by decide)) 0 1).trans (rfl : S.1 (ad 6) = S.1 (ad 6))
      have hz21 : zZr ((zpi S mo 0 1).1 (ad 6)) := by rw [zpi_off S (hM.mo (i := 6) (by decide))]; exact hz0
      have hst := zC.pf hM hst (k := 0) (by decide) 1
      have hI := hI.ffree hM (k := 0) (by decide) 1
      have kn22 := zpi_s S mo 0 1
      refine lv_aload_n hx hb dX7_frame_47 rfl (lv_at hl 0 rfl) ?_
      refine zget (ci := 7) (C := RX7) (T := TX7) (N := 42) hx hb hts hi7 hown hK hP hM.1 rfl rfl 0 (by decide) (hts (.fieldLink RX7 117 "LinClusterModel" "thrown" "I") (by decide +kernel)) (fun _ h9 => h9) rfl dX7_frame_48 ?_
      refine lv_topi (fun v23 ev23 => ?_)
      obtain rfl : v23 = 1 := ev23.trans kn22
      refine lv_if_le (tgt := 55) hx hb dX7_frame_51 (by decide) (fun c24 => ?_) (fun c24 => ?_)
      · exact absurd c24 (by decide)
      · skip
        exact W.vret hx hb hr (fun t ht hW => ⟨⟨(zpi S mo 0 1), rfl, ⟨⟨hst, hI⟩, ⟨by rw [kn22]; exact (if_pos (((zii0 hr13 c14)).elim (fun z9 => Or.inr (Or.inr (Or.inl z9))) (fun z9 => Or.inr (Or.inr (Or.inr (Or.inl z9)))))).symm, fun z9 => absurd (kn22.symm.trans z9) (by decide), fun _ => ⟨rw15, rw16, rw17, rw18, rw19, rw20⟩, hz21⟩⟩, by rw [ht]; exact hP, va_K.moved hW.alike hK, hD⟩, hS.F ht⟩) hS.2.2 dX7_frame_54
    · skip
      obtain ⟨L8, hL8, rfl⟩ := nI_of2 (M := 8) (n := 8) (x := b) (by decide) (fun z9 => (zii1 hr13 c14).1 (Int32.lt_of_lt_of_le z9 (by decide))) (Int32.not_lt.mp (zii1 hr13 c14).2)
      refine lv_iload_n hx hb dX7_frame_21 rfl (lv_at hl 3 rfl) ?_
      refine vp_callSi (va_Run.run (va_runS (As := [.int v]) (rest := [.ref mo]) ⟨hx, hb, hml, hown, hts⟩ (c_X7_isNode l v) (va_cwS 1 hts gX7_frame_X7_isNode rfl rfl rfl (by decide +kernel) ⟨Nat.le_of_ble_eq_true rfl, Nat.le_of_ble_eq_true rfl⟩) zpreS0 rfl rfl hl.1 rfl (lv_room (Nat.le_of_ble_eq_true rfl)) dX7_frame_22 ⟨Nat.le_of_ble_eq_true rfl, Nat.le_of_ble_eq_true rfl⟩)) (fun r25 hr25 => ?_)
      refine lv_if_ne (tgt := 32) hx hb dX7_frame_25 (by decide) (fun c26 => ?_) (fun c26 => ?_)
      · skip
        obtain ⟨j8, hj8, rfl⟩ := zin7n hr25 c26
        refine lv_aload_n hx hb dX7_frame_32 rfl (lv_at hl 0 rfl) ?_
        refine zget (ci := 7) (C := RX7) (T := TX7) (N := 42) hx hb hts hi7 hown hK hP hM.1 rfl rfl 33 (by decide) (hts (.fieldLink RX7 128 "LinClusterModel" "time" "I") (by decide +kernel)) (fun _ h9 => h9) rfl dX7_frame_33 ?_
        refine lv_topi (fun v27 ev27 => ?_)
        refine lv_if_le (tgt := 43) hx hb dX7_frame_36 (by decide) (fun c28 => ?_) (fun c28 => ?_)
        · skip
          refine lv_iconst (v := 0) hx hb dX7_frame_43 (by decide) ?_
          refine zputi (ci := 7) (v := 0) (ty := .int) (C := RX7) (T := TX7) (N := 42) hx hb hts hi7 tyX7 tyX7_ok nmX7 hown hK hP hD hS hM.1 rfl rfl 0 (by decide) (hts (.fieldLink RX7 117 "LinClusterModel" "thrown" "I") (by decide +kernel)) (fun _ h9 => h9) rfl (by decide +kernel) rfl rfl (Nat.le_of_ble_eq_true rfl) rfl dX7_frame_44 (fun H locs hP hD hS => ?_)
          have rw29 := (zpi_off S (hM.mo (i := 1) (by decide)) 0 0).trans (rfl : S.1 (ad 1) = S.1 (ad 1))
          have rw30 := (zpi_off S (hM.mo (i := 2) (by decide)) 0 0).trans (rfl : S.1 (ad 2) = S.1 (ad 2))
          have rw31 := (zpi_off S (hM.mo (i := 3) (by decide)) 0 0).trans (rfl : S.1 (ad 3) = S.1 (ad 3))
          have rw32 := (zpi_off S (hM.mo (i := 4) (by decide)) 0 0).trans (rfl : S.1 (ad 4) = S.1 (ad 4))
          have rw33 := (zpi_off S (hM.mo (i := 5) (by decide)) 0 0).trans (rfl : S.1 (ad 5) = S.1 (ad 5))
          have rw34 := (zpi_off S (hM.mo (i := 6) (by decide)) 0 0).trans (rfl : S.1 (ad 6) = S.1 (ad 6))
          have hz35 : zZr ((zpi S mo 0 0).1 (ad 6)) := by rw [zpi_off S (hM.mo (i := 6) (by decide))]; exact hz0
          have hst := zC.pf hM hst (k := 0) (by decide) 0
          have hI := hI.ffree hM (k := 0) (by decide) 0
          have kn36 := zpi_s S mo 0 0
          refine lv_aload_n hx hb dX7_frame_47 rfl (lv_at hl 0 rfl) ?_
          refine zget (ci := 7) (C := RX7) (T := TX7) (N := 42) hx hb hts hi7 hown hK hP hM.1 rfl rfl 0 (by decide) (hts (.fieldLink RX7 117 "LinClusterModel" "thrown" "I") (by decide +kernel)) (fun _ h9 => h9) rfl dX7_frame_48 ?_
          refine lv_topi (fun v37 ev37 => ?_)
          obtain rfl : v37 = 0 := ev37.trans kn36
          refine lv_if_le (tgt := 55) hx hb dX7_frame_51 (by decide) (fun c38 => ?_) (fun c38 => ?_)
          · skip
            refine lv_aload_n hx hb dX7_frame_55 rfl (lv_at hl 0 rfl) ?_
            refine zget (ci := 7) (C := RX7) (T := TX7) (N := 42) hx hb hts hi7 hown hK hP hM.1 rfl rfl 1 (by decide) (hts (.fieldLink RX7 7 "LinClusterModel" "there" "[Z") (by decide +kernel)) (fun _ h9 => h9) (v := .ref (ad 1)) (congrArg (fun z => some (va_rf z)) (((hM.eq hst.1).2.1 1 (by decide)).1)) dX7_frame_56 ?_
            refine lv_iload_n hx hb dX7_frame_59 rfl (lv_at hl 1 rfl) ?_
            refine lv_iconst (v := 1) hx hb dX7_frame_60 (by decide) ?_
            refine zzast (x := 1) hx hb hK hP hD hS (hM.2.1 1 (by decide)).2.1 (show G.2.2 (ad 1) = 62 from (hM.2.1 1 (by decide)).2.2) (vp_in_nI (n := i8) (N := 62) (by omega) (by omega)) dX7_frame_61 (fun H locs hP hD hS => ?_)
            have rw39 : (zpi (zpi S mo 0 0) (ad 1) i8 (vp_nar .boolean 1)).1 (ad 1) = (upd (S.1 (ad 1)) i8 (vp_nar .boolean 1)) := by rw [zpi_row, rw29]
            have rw40 := (zpi_off (zpi S mo 0 0) (hM.ne (i := 2) (j := 1) (by decide) (by decide) (by decide)) i8 (vp_nar .boolean 1)).trans rw30
            have rw41 := (zpi_off (zpi S mo 0 0) (hM.ne (i := 3) (j := 1) (by decide) (by decide) (by decide)) i8 (vp_nar .boolean 1)).trans rw31
            have rw42 := (zpi_off (zpi S mo 0 0) (hM.ne (i := 4) (j := 1) (by decide) (by decide) (by decide)) i8 (vp_nar .boolean 1)).trans rw32
            have rw43 := (zpi_off (zpi S mo 0 0) (hM.ne (i := 5) (j := 1) (by decide) (by decide) (by decide)) i8 (vp_nar .boolean 1)).trans rw33
            have rw44 := (zpi_off (zpi S mo 0 0) (hM.ne (i := 6) (j := 1) (by decide) (by decide) (by decide)) i8 (vp_nar .boolean 1)).trans rw34
            have hz45 : zZr ((zpi (zpi S mo 0 0) (ad 1) i8 (vp_nar .boolean 1)).1 (ad 6)) := by rw [zpi_off (zpi S mo 0 0) (hM.ne (i := 6) (j := 1) (by decide) (by decide) (by decide))]; exact hz35
            rw [(nI_clamp (n := i8) (by omega))] at hP hD
            have hst := zC.pa hM hst (k := 1) (by decide) (by decide) i8 (vp_nar .boolean 1)
            have kn46 := zpi_af hM (zpi S mo 0 0) (k := 1) (by decide) i8 (vp_nar .boolean 1) (i := 0) kn36
            have hI := hI.free hM (k := 1) (by decide) (by decide) i8 (vp_nar .boolean 1)
            have kn47 := zpi_s (zpi S mo 0 0) (ad 1) i8 (vp_nar .boolean 1)
            refine lv_aload_n hx hb dX7_frame_62 rfl (lv_at hl 0 rfl) ?_
            refine zget (ci := 7) (C := RX7) (T := TX7) (N := 42) hx hb hts hi7 hown hK hP hM.1 rfl rfl 2 (by decide) (hts (.fieldLink RX7 13 "LinClusterModel" "lengths" "[I") (by decide +kernel)) (fun _ h9 => h9) (v := .ref (ad 2)) (congrArg (fun z => some (va_rf z)) (((hM.eq hst.1).2.1 2 (by decide)).1)) dX7_frame_63 ?_
            refine lv_iload_n hx hb dX7_frame_66 rfl (lv_at hl 1 rfl) ?_
            refine lv_iload_n hx hb dX7_frame_67 rfl (lv_at hl 2 rfl) ?_
            refine ziast (x := (nI L8)) hx hb hK hP hD hS (hM.2.1 2 (by decide)).2.1 (show G.2.2 (ad 2) = 62 from (hM.2.1 2 (by decide)).2.2) (vp_in_nI (n := i8) (N := 62) (by omega) (by omega)) dX7_frame_68 (fun H locs hP hD hS => ?_)
            have rw48 := (zpi_off (zpi (zpi S mo 0 0) (ad 1) i8 (vp_nar .boolean 1)) (hM.ne (i := 1) (j := 2) (by decide) (by decide) (by decide)) i8 (nI L8)).trans rw39
            have rw49 : (zpi (zpi (zpi S mo 0 0) (ad 1) i8 (vp_nar .boolean 1)) (ad 2) i8 (nI L8)).1 (ad 2) = (upd (S.1 (ad 2)) i8 (nI L8)) := by rw [zpi_row, rw40]
            have rw50 := (zpi_off (zpi (zpi S mo 0 0) (ad 1) i8 (vp_nar .boolean 1)) (hM.ne (i := 3) (j := 2) (by decide) (by decide) (by decide)) i8 (nI L8)).trans rw41
            have rw51 := (zpi_off (zpi (zpi S mo 0 0) (ad 1) i8 (vp_nar .boolean 1)) (hM.ne (i := 4) (j := 2) (by decide) (by decide) (by decide)) i8 (nI L8)).trans rw42
            have rw52 := (zpi_off (zpi (zpi S mo 0 0) (ad 1) i8 (vp_nar .boolean 1)) (hM.ne (i := 5) (j := 2) (by decide) (by decide) (by decide)) i8 (nI L8)).trans rw43
            have rw53 := (zpi_off (zpi (zpi S mo 0 0) (ad 1) i8 (vp_nar .boolean 1)) (hM.ne (i := 6) (j := 2) (by decide) (by decide) (by decide)) i8 (nI L8)).trans rw44
            have hz54 : zZr ((zpi (zpi (zpi S mo 0 0) (ad 1) i8 (vp_nar .boolean 1)) (ad 2) i8 (nI L8)).1 (ad 6)) := by rw [zpi_off (zpi (zpi S mo 0 0) (ad 1) i8 (vp_nar .boolean 1)) (hM.ne (i := 6) (j := 2) (by decide) (by decide) (by decide))]; exact hz45
            rw [(nI_clamp (n := i8) (by omega))] at hP hD
            have hst := zC.pa hM hst (k := 2) (by decide) (by decide) i8 (nI L8)
            have kn55 := zpi_af hM (zpi (zpi S mo 0 0) (ad 1) i8 (vp_nar .boolean 1)) (k := 2) (by decide) i8 (nI L8) (i := 0) kn46
            have kn56 := zpi_o hM (zpi (zpi S mo 0 0) (ad 1) i8 (vp_nar .boolean 1)) (i := 1) (k := 2) (by decide) (by decide) (by decide) i8 (nI L8) kn47
            have hI := hI.leng hM (i := i8) (L := L8) hL8 (fun n hn => by rw [zpi_off _ (hM.ne (i := 16) (j := 1) (by decide) (by decide) (by decide)), zpi_off _ (hM.mo (i := 16) (by decide))]; exact hat0 (by rw [← ev27]; exact c28) n hn)
            have kn57 := zpi_s (zpi (zpi S mo 0 0) (ad 1) i8 (vp_nar .boolean 1)) (ad 2) i8 (nI L8)
            refine lv_aload_n hx hb dX7_frame_69 rfl (lv_at hl 0 rfl) ?_
            refine zget (ci := 7) (C := RX7) (T := TX7) (N := 42) hx hb hts hi7 hown hK hP hM.1 rfl rfl 3 (by decide) (hts (.fieldLink RX7 17 "LinClusterModel" "publishers" "[I") (by decide +kernel)) (fun _ h9 => h9) (v := .ref (ad 3)) (congrArg (fun z => some (va_rf z)) (((hM.eq hst.1).2.1 3 (by decide)).1)) dX7_frame_70 ?_
            refine lv_iload_n hx hb dX7_frame_73 rfl (lv_at hl 1 rfl) ?_
            refine lv_iload_n hx hb dX7_frame_74 rfl (lv_at hl 3 rfl) ?_
            refine ziast (x := (nI j8)) hx hb hK hP hD hS (hM.2.1 3 (by decide)).2.1 (show G.2.2 (ad 3) = 62 from (hM.2.1 3 (by decide)).2.2) (vp_in_nI (n := i8) (N := 62) (by omega) (by omega)) dX7_frame_75 (fun H locs hP hD hS => ?_)
            have rw58 := (zpi_off (zpi (zpi (zpi S mo 0 0) (ad 1) i8 (vp_nar .boolean 1)) (ad 2) i8 (nI L8)) (hM.ne (i := 1) (j := 3) (by decide) (by decide) (by decide)) i8 (nI j8)).trans rw48
            have rw59 := (zpi_off (zpi (zpi (zpi S mo 0 0) (ad 1) i8 (vp_nar .boolean 1)) (ad 2) i8 (nI L8)) (hM.ne (i := 2) (j := 3) (by decide) (by decide) (by decide)) i8 (nI j8)).trans rw49
            have rw60 : (zpi (zpi (zpi (zpi S mo 0 0) (ad 1) i8 (vp_nar .boolean 1)) (ad 2) i8 (nI L8)) (ad 3) i8 (nI j8)).1 (ad 3) = (upd (S.1 (ad 3)) i8 (nI j8)) := by rw [zpi_row, rw50]
            have rw61 := (zpi_off (zpi (zpi (zpi S mo 0 0) (ad 1) i8 (vp_nar .boolean 1)) (ad 2) i8 (nI L8)) (hM.ne (i := 4) (j := 3) (by decide) (by decide) (by decide)) i8 (nI j8)).trans rw51
            have rw62 := (zpi_off (zpi (zpi (zpi S mo 0 0) (ad 1) i8 (vp_nar .boolean 1)) (ad 2) i8 (nI L8)) (hM.ne (i := 5) (j := 3) (by decide) (by decide) (by decide)) i8 (nI j8)).trans rw52
            have rw63 := (zpi_off (zpi (zpi (zpi S mo 0 0) (ad 1) i8 (vp_nar .boolean 1)) (ad 2) i8 (nI L8)) (hM.ne (i := 6) (j := 3) (by decide) (by decide) (by decide)) i8 (nI j8)).trans rw53
            have hz64 : zZr ((zpi (zpi (zpi (zpi S mo 0 0) (ad 1) i8 (vp_nar .boolean 1)) (ad 2) i8 (nI L8)) (ad 3) i8 (nI j8)).1 (ad 6)) := by rw [zpi_off (zpi (zpi (zpi S mo 0 0) (ad 1) i8 (vp_nar .boolean 1)) (ad 2) i8 (nI L8)) (hM.ne (i := 6) (j := 3) (by decide) (by decide) (by decide))]; exact hz54
            rw [(nI_clamp (n := i8) (by omega))] at hP hD
            have hst := zC.pa hM hst (k := 3) (by decide) (by decide) i8 (nI j8)
            have kn65 := zpi_af hM (zpi (zpi (zpi S mo 0 0) (ad 1) i8 (vp_nar .boolean 1)) (ad 2) i8 (nI L8)) (k := 3) (by decide) i8 (nI j8) (i := 0) kn55
            have kn66 := zpi_o hM (zpi (zpi (zpi S mo 0 0) (ad 1) i8 (vp_nar .boolean 1)) (ad 2) i8 (nI L8)) (i := 1) (k := 3) (by decide) (by decide) (by decide) i8 (nI j8) kn56
            have kn67 := zpi_o hM (zpi (zpi (zpi S mo 0 0) (ad 1) i8 (vp_nar .boolean 1)) (ad 2) i8 (nI L8)) (i := 2) (k := 3) (by decide) (by decide) (by decide) i8 (nI j8) kn57
            have hI := hI.free hM (k := 3) (by decide) (by decide) i8 (nI j8)
            have kn68 := zpi_s (zpi (zpi (zpi S mo 0 0) (ad 1) i8 (vp_nar .boolean 1)) (ad 2) i8 (nI L8)) (ad 3) i8 (nI j8)
            refine lv_aload_n hx hb dX7_frame_76 rfl (lv_at hl 0 rfl) ?_
            refine zget (ci := 7) (C := RX7) (T := TX7) (N := 42) hx hb hts hi7 hown hK hP hM.1 rfl rfl 4 (by decide) (hts (.fieldLink RX7 20 "LinClusterModel" "enhanced" "[Z") (by decide +kernel)) (fun _ h9 => h9) (v := .ref (ad 4)) (congrArg (fun z => some (va_rf z)) (((hM.eq hst.1).2.1 4 (by decide)).1)) dX7_frame_77 ?_
            refine lv_iload_n hx hb dX7_frame_80 rfl (lv_at hl 1 rfl) ?_
            refine lv_iload hx hb dX7_frame_81 (lv_at hl 4 rfl) ?_
            refine zzast (x := e1) hx hb hK hP hD hS (hM.2.1 4 (by decide)).2.1 (show G.2.2 (ad 4) = 62 from (hM.2.1 4 (by decide)).2.2) (vp_in_nI (n := i8) (N := 62) (by omega) (by omega)) dX7_frame_83 (fun H locs hP hD hS => ?_)
            have rw69 := (zpi_off (zpi (zpi (zpi (zpi S mo 0 0) (ad 1) i8 (vp_nar .boolean 1)) (ad 2) i8 (nI L8)) (ad 3) i8 (nI j8)) (hM.ne (i := 1) (j := 4) (by decide) (by decide) (by decide)) i8 (vp_nar .boolean e1)).trans rw58
            have rw70 := (zpi_off (zpi (zpi (zpi (zpi S mo 0 0) (ad 1) i8 (vp_nar .boolean 1)) (ad 2) i8 (nI L8)) (ad 3) i8 (nI j8)) (hM.ne (i := 2) (j := 4) (by decide) (by decide) (by decide)) i8 (vp_nar .boolean e1)).trans rw59
            have rw71 := (zpi_off (zpi (zpi (zpi (zpi S mo 0 0) (ad 1) i8 (vp_nar .boolean 1)) (ad 2) i8 (nI L8)) (ad 3) i8 (nI j8)) (hM.ne (i := 3) (j := 4) (by decide) (by decide) (by decide)) i8 (vp_nar .boolean e1)).trans rw60
            have rw72 : (zpi (zpi (zpi (zpi (zpi S mo 0 0) (ad 1) i8 (vp_nar .boolean 1)) (ad 2) i8 (nI L8)) (ad 3) i8 (nI j8)) (ad 4) i8 (vp_nar .boolean e1)).1 (ad 4) = (upd (S.1 (ad 4)) i8 (vp_nar .boolean e1)) := by rw [zpi_row, rw61]
            have rw73 := (zpi_off (zpi (zpi (zpi (zpi S mo 0 0) (ad 1) i8 (vp_nar .boolean 1)) (ad 2) i8 (nI L8)) (ad 3) i8 (nI j8)) (hM.ne (i := 5) (j := 4) (by decide) (by decide) (by decide)) i8 (vp_nar .boolean e1)).trans rw62
            have rw74 := (zpi_off (zpi (zpi (zpi (zpi S mo 0 0) (ad 1) i8 (vp_nar .boolean 1)) (ad 2) i8 (nI L8)) (ad 3) i8 (nI j8)) (hM.ne (i := 6) (j := 4) (by decide) (by decide) (by decide)) i8 (vp_nar .boolean e1)).trans rw63
            have hz75 : zZr ((zpi (zpi (zpi (zpi (zpi S mo 0 0) (ad 1) i8 (vp_nar .boolean 1)) (ad 2) i8 (nI L8)) (ad 3) i8 (nI j8)) (ad 4) i8 (vp_nar .boolean e1)).1 (ad 6)) := by rw [zpi_off (zpi (zpi (zpi (zpi S mo 0 0) (ad 1) i8 (vp_nar .boolean 1)) (ad 2) i8 (nI L8)) (ad 3) i8 (nI j8)) (hM.ne (i := 6) (j := 4) (by decide) (by decide) (by decide))]; exact hz64
            rw [(nI_clamp (n := i8) (by omega))] at hP hD
            have hst := zC.pa hM hst (k := 4) (by decide) (by decide) i8 (vp_nar .boolean e1)
            have kn76 := zpi_af hM (zpi (zpi (zpi (zpi S mo 0 0) (ad 1) i8 (vp_nar .boolean 1)) (ad 2) i8 (nI L8)) (ad 3) i8 (nI j8)) (k := 4) (by decide) i8 (vp_nar .boolean e1) (i := 0) kn65
            have kn77 := zpi_o hM (zpi (zpi (zpi (zpi S mo 0 0) (ad 1) i8 (vp_nar .boolean 1)) (ad 2) i8 (nI L8)) (ad 3) i8 (nI j8)) (i := 1) (k := 4) (by decide) (by decide) (by decide) i8 (vp_nar .boolean e1) kn66
            have kn78 := zpi_o hM (zpi (zpi (zpi (zpi S mo 0 0) (ad 1) i8 (vp_nar .boolean 1)) (ad 2) i8 (nI L8)) (ad 3) i8 (nI j8)) (i := 2) (k := 4) (by decide) (by decide) (by decide) i8 (vp_nar .boolean e1) kn67
            have kn79 := zpi_o hM (zpi (zpi (zpi (zpi S mo 0 0) (ad 1) i8 (vp_nar .boolean 1)) (ad 2) i8 (nI L8)) (ad 3) i8 (nI j8)) (i := 3) (k := 4) (by decide) (by decide) (by decide) i8 (vp_nar .boolean e1) kn68
            have hI := hI.free hM (k := 4) (by decide) (by decide) i8 (vp_nar .boolean e1)
            have kn80 := zpi_s (zpi (zpi (zpi (zpi S mo 0 0) (ad 1) i8 (vp_nar .boolean 1)) (ad 2) i8 (nI L8)) (ad 3) i8 (nI j8)) (ad 4) i8 (vp_nar .boolean e1)
            refine lv_iconst (v := 0) hx hb dX7_frame_84 (by decide) ?_
            refine lv_istore (lv' := [(5, .int 0), (0, .ref mo), (1, .int (nI i8)), (2, .int (nI L8)), (3, .int (nI j8)), (4, .int e1)]) hx hb dX7_frame_85 hl (by decide) rfl (fun ls hl => ?_)
            refine zloopW 8 (fun k9 (_ : Unit) => [(0, .ref mo), (1, .int (nI i8)), (2, .int (nI L8)), (3, .int (nI j8)), (4, .int e1), (5, .int (nI k9))]) (fun k9 S' => zC mo ad [1, 2, 3, 4, 5, 6, 13] [0] S S' ∧ zI mo ad S' ∧ S'.1 mo 0 = 0 ∧ zZr (S'.1 (ad 6)) ∧ S'.1 (ad 1) = (upd (S.1 (ad 1)) i8 (vp_nar .boolean 1)) ∧ S'.1 (ad 2) = (upd (S.1 (ad 2)) i8 (nI L8)) ∧ S'.1 (ad 3) = (upd (S.1 (ad 3)) i8 (nI j8)) ∧ S'.1 (ad 4) = (upd (S.1 (ad 4)) i8 (vp_nar .boolean e1)) ∧ S'.1 (ad 6) = (S.1 (ad 6)) ∧ zB5 (S.1 (ad 5)) (S'.1 (ad 5)) i8 k9) ?_ ?_ 8 0 () (zpi (zpi (zpi (zpi (zpi S mo 0 0) (ad 1) i8 (vp_nar .boolean 1)) (ad 2) i8 (nI L8)) (ad 3) i8 (nI j8)) (ad 4) i8 (vp_nar .boolean e1)) H locs ls rfl ⟨hst, hI, kn76, hz75, rw69, rw70, rw71, rw72, rw74, by rw [rw73]; exact zB5.z _ _⟩ hP hD hS (lv_sub hl [1, 2, 3, 4, 5, 0] rfl)
            · intro x9 S87_ H locs ls hJ9 hP hD hS hl
              obtain ⟨hst, hI, k087, hz87_, r1_87, r2_87, r3_87, r4_87, r6_87, hq87_⟩ := hJ9
              have hl : lv_has ls 6 [(0, .ref mo), (1, .int (nI i8)), (2, .int (nI L8)), (3, .int (nI j8)), (4, .int e1), (5, .int (nI 8))] := hl
              refine lv_iload hx hb dX7_frame_87 (lv_at hl 5 rfl) ?_
              refine lv_bipush (v := 8) hx hb dX7_frame_89 (by decide) ?_
              refine lv_icmp_ge (tgt := 113) hx hb dX7_frame_91 (by decide) (fun c81 => ?_) (fun c81 => ?_)
              · skip
                refine lv_iconst (v := 0) hx hb dX7_frame_113 (by decide) ?_
                refine lv_istore (lv' := [(5, .int 0), (0, .ref mo), (1, .int (nI i8)), (2, .int (nI L8)), (3, .int (nI j8)), (4, .int e1)]) hx hb dX7_frame_114 hl (by decide) rfl (fun ls hl => ?_)
                refine zloopW 8 (fun k9 (_ : Unit) => [(0, .ref mo), (1, .int (nI i8)), (2, .int (nI L8)), (3, .int (nI j8)), (4, .int e1), (5, .int (nI k9))]) (fun k9 S' => zC mo ad [1, 2, 3, 4, 5, 6, 13] [0] S S' ∧ zI mo ad S' ∧ S'.1 mo 0 = 0 ∧ zZr (S'.1 (ad 6)) ∧ S'.1 (ad 1) = (upd (S.1 (ad 1)) i8 (vp_nar .boolean 1)) ∧ S'.1 (ad 2) = (upd (S.1 (ad 2)) i8 (nI L8)) ∧ S'.1 (ad 3) = (upd (S.1 (ad 3)) i8 (nI j8)) ∧ S'.1 (ad 4) = (upd (S.1 (ad 4)) i8 (vp_nar .boolean e1)) ∧ S'.1 (ad 5) = (S87_.1 (ad 5)) ∧ zL6 (S.1 (ad 6)) (S'.1 (ad 6)) i8 k9) ?_ ?_ 8 0 () S87_ H locs ls rfl ⟨hst, hI, k087, hz87_, r1_87, r2_87, r3_87, r4_87, (rfl : S87_.1 (ad 5) = S87_.1 (ad 5)), by rw [r6_87]; exact zL6.z _ _⟩ hP hD hS (lv_sub hl [1, 2, 3, 4, 5, 0] rfl)
                · intro x9 S116_ H locs ls hJ9 hP hD hS hl
                  obtain ⟨hst, hI, k0116, hz116_, r1_116, r2_116, r3_116, r4_116, r5_116, hq116_⟩ := hJ9
                  have hl : lv_has ls 6 [(0, .ref mo), (1, .int (nI i8)), (2, .int (nI L8)), (3, .int (nI j8)), (4, .int e1), (5, .int (nI 8))] := hl
                  refine lv_iload hx hb dX7_frame_116 (lv_at hl 5 rfl) ?_
                  refine lv_bipush (v := 8) hx hb dX7_frame_118 (by decide) ?_
                  refine lv_icmp_ge (tgt := 171) hx hb dX7_frame_120 (by decide) (fun c82 => ?_) (fun c82 => ?_)
                  · skip
                    exact W.vret hx hb hr (fun t ht hW => ⟨⟨S116_, rfl, ⟨⟨hst, hI⟩, ⟨by rw [k0116]; unfold kFrame; rw [if_neg (fun z9 => z9.elim (zii1 hr1 c2).1 (fun z8 => z8.elim (fun z7 => (zii1 hr1 c2).2 ((zcv (a := 61) (b := 62) (by decide)).mpr z7)) (fun z7 => z7.elim (zii1 hr13 c14).1 (fun z6 => z6.elim (zii1 hr13 c14).2 (zn8 hj8))))), if_neg (fun z9 => Int32.not_lt.mpr (by rw [← ev27]; exact c28) z9)], fun _ => ⟨i8, hi8, rfl, r1_116, r2_116, r3_116, r4_116, by rw [r5_116]; exact hq87_, hq116_⟩, fun z9 => absurd k0116 z9, hz116_⟩⟩, by rw [ht]; exact hP, va_K.moved hW.alike hK, hD⟩, hS.F ht⟩) hS.2.2 dX7_frame_171
                  · exact absurd (nI_le (a := 8) (b := 8) (Nat.le_refl _) (by omega)) c82
                · intro n8 k116 x9 S116_ H locs ls hk9 ih hJ9 hP hD hS hl
                  obtain ⟨hst, hI, k0116, hz116_, r1_116, r2_116, r3_116, r4_116, r5_116, hq116_⟩ := hJ9
                  have hl : lv_has ls 6 [(0, .ref mo), (1, .int (nI i8)), (2, .int (nI L8)), (3, .int (nI j8)), (4, .int e1), (5, .int (nI k116))] := hl
                  refine lv_iload hx hb dX7_frame_116 (lv_at hl 5 rfl) ?_
                  refine lv_bipush (v := 8) hx hb dX7_frame_118 (by decide) ?_
                  refine lv_icmp_ge (tgt := 171) hx hb dX7_frame_120 (by decide) (fun c83 => ?_) (fun c83 => ?_)
                  · exact absurd c83 (nI_ge (a := k116) (b := 8) (by omega) (by omega))
                  · skip
                    refine lv_aload_n hx hb dX7_frame_123 rfl (lv_at hl 0 rfl) ?_
                    refine zget (ci := 7) (C := RX7) (T := TX7) (N := 42) hx hb hts hi7 hown hK hP hM.1 rfl rfl 6 (by decide) (hts (.fieldLink RX7 26 "LinClusterModel" "listens" "[Z") (by decide +kernel)) (fun _ h9 => h9) (v := .ref (ad 6)) (congrArg (fun z => some (va_rf z)) (((hM.eq hst.1).2.1 6 (by decide)).1)) dX7_frame_124 ?_
                    refine lv_bipush (v := 62) hx hb dX7_frame_127 (by decide) ?_
                    refine lv_iload hx hb dX7_frame_129 (lv_at hl 5 rfl) ?_
                    refine lv_imul hx hb dX7_frame_131 ?_
                    refine lv_topi (fun v84 ev84 => ?_)
                    obtain rfl : v84 = nI (62 * k116) := ev84.trans (pk_mul 62 k116)
                    refine lv_iload_n hx hb dX7_frame_132 rfl (lv_at hl 1 rfl) ?_
                    refine lv_iadd hx hb dX7_frame_133 ?_
                    refine lv_topi (fun v85 ev85 => ?_)
                    obtain rfl : v85 = nI ((62 * k116) + i8) := ev85.trans (nI_add (62 * k116) i8)
                    refine lv_iconst (v := 0) hx hb dX7_frame_134 (by decide) ?_
                    refine zzast (x := 0) hx hb hK hP hD hS (hM.2.1 6 (by decide)).2.1 (show G.2.2 (ad 6) = 496 from (hM.2.1 6 (by decide)).2.2) (vp_in_nI (n := ((62 * k116) + i8)) (N := 496) (by omega) (by omega)) dX7_frame_135 (fun H locs hP hD hS => ?_)
                    have rw86 := (zpi_off S116_ (hM.ne (i := 1) (j := 6) (by decide) (by decide) (by decide)) ((62 * k116) + i8) (vp_nar .boolean 0)).trans r1_116
                    have rw87 := (zpi_off S116_ (hM.ne (i := 2) (j := 6) (by decide) (by decide) (by decide)) ((62 * k116) + i8) (vp_nar .boolean 0)).trans r2_116
                    have rw88 := (zpi_off S116_ (hM.ne (i := 3) (j := 6) (by decide) (by decide) (by decide)) ((62 * k116) + i8) (vp_nar .boolean 0)).trans r3_116
                    have rw89 := (zpi_off S116_ (hM.ne (i := 4) (j := 6) (by decide) (by decide) (by decide)) ((62 * k116) + i8) (vp_nar .boolean 0)).trans r4_116
                    have rw90 := (zpi_off S116_ (hM.ne (i := 5) (j := 6) (by decide) (by decide) (by decide)) ((62 * k116) + i8) (vp_nar .boolean 0)).trans r5_116
                    have rw91 : (zpi S116_ (ad 6) ((62 * k116) + i8) (vp_nar .boolean 0)).1 (ad 6) = (upd (S116_.1 (ad 6)) ((62 * k116) + i8) (vp_nar .boolean 0)) := by rw [zpi_row, (rfl : S116_.1 (ad 6) = S116_.1 (ad 6))]
                    have hz92 : zZr ((zpi S116_ (ad 6) ((62 * k116) + i8) (vp_nar .boolean 0)).1 (ad 6)) := by rw [zpi_row]; exact hz116_.up _ _
                    rw [(nI_clamp (n := ((62 * k116) + i8)) (by omega))] at hP hD
                    have hst := zC.pa hM hst (k := 6) (by decide) (by decide) ((62 * k116) + i8) (vp_nar .boolean 0)
                    have kn93 := zpi_af hM S116_ (k := 6) (by decide) ((62 * k116) + i8) (vp_nar .boolean 0) (i := 0) k0116
                    have hI := hI.free hM (k := 6) (by decide) (by decide) ((62 * k116) + i8) (vp_nar .boolean 0)
                    have kn94 := zpi_s S116_ (ad 6) ((62 * k116) + i8) (vp_nar .boolean 0)
                    refine lv_aload_n hx hb dX7_frame_136 rfl (lv_at hl 0 rfl) ?_
                    refine zget (ci := 7) (C := RX7) (T := TX7) (N := 42) hx hb hts hi7 hown hK hP hM.1 rfl rfl 13 (by decide) (hts (.fieldLink RX7 44 "LinClusterModel" "statusIds" "[I") (by decide +kernel)) (fun _ h9 => h9) (v := .ref (ad 13)) (congrArg (fun z => some (va_rf z)) (((hM.eq hst.1).2.1 13 (by decide)).1)) dX7_frame_137 ?_
                    refine lv_iload hx hb dX7_frame_140 (lv_at hl 5 rfl) ?_
                    refine lv_aload_n hx hb dX7_frame_142 rfl (lv_at hl 0 rfl) ?_
                    refine zget (ci := 7) (C := RX7) (T := TX7) (N := 42) hx hb hts hi7 hown hK hP hM.1 rfl rfl 13 (by decide) (hts (.fieldLink RX7 44 "LinClusterModel" "statusIds" "[I") (by decide +kernel)) (fun _ h9 => h9) (v := .ref (ad 13)) (congrArg (fun z => some (va_rf z)) (((hM.eq hst.1).2.1 13 (by decide)).1)) dX7_frame_143 ?_
                    refine lv_iload hx hb dX7_frame_146 (lv_at hl 5 rfl) ?_
                    refine ziald hx hb hK hP (hM.2.1 13 (by decide)).2.1 (show G.2.2 (ad 13) = 8 from (hM.2.1 13 (by decide)).2.2) (vp_in_nI (n := k116) (N := 8) (by omega) (by omega)) dX7_frame_148 ?_
                    refine lv_topi (fun v95 ev95 => ?_)
                    rw [(nI_clamp (n := k116) (by omega))] at ev95
                    refine lv_iload_n hx hb dX7_frame_149 rfl (lv_at hl 1 rfl) ?_
                    refine lv_icmp_ne (tgt := 157) hx hb dX7_frame_150 (by decide) (fun c96 => ?_) (fun c96 => ?_)
                    · skip
                      refine lv_aload_n hx hb dX7_frame_157 rfl (lv_at hl 0 rfl) ?_
                      refine zget (ci := 7) (C := RX7) (T := TX7) (N := 42) hx hb hts hi7 hown hK hP hM.1 rfl rfl 13 (by decide) (hts (.fieldLink RX7 44 "LinClusterModel" "statusIds" "[I") (by decide +kernel)) (fun _ h9 => h9) (v := .ref (ad 13)) (congrArg (fun z => some (va_rf z)) (((hM.eq hst.1).2.1 13 (by decide)).1)) dX7_frame_158 ?_
                      refine lv_iload hx hb dX7_frame_161 (lv_at hl 5 rfl) ?_
                      refine ziald hx hb hK hP (hM.2.1 13 (by decide)).2.1 (show G.2.2 (ad 13) = 8 from (hM.2.1 13 (by decide)).2.2) (vp_in_nI (n := k116) (N := 8) (by omega) (by omega)) dX7_frame_163 ?_
                      refine lv_topi (fun v97 ev97 => ?_)
                      rw [(nI_clamp (n := k116) (by omega))] at ev97
                      refine ziast (x := v97) hx hb hK hP hD hS (hM.2.1 13 (by decide)).2.1 (show G.2.2 (ad 13) = 8 from (hM.2.1 13 (by decide)).2.2) (vp_in_nI (n := k116) (N := 8) (by omega) (by omega)) dX7_frame_164 (fun H locs hP hD hS => ?_)
                      have rw98 := (zpi_off (zpi S116_ (ad 6) ((62 * k116) + i8) (vp_nar .boolean 0)) (hM.ne (i := 1) (j := 13) (by decide) (by decide) (by decide)) k116 v97).trans rw86
                      have rw99 := (zpi_off (zpi S116_ (ad 6) ((62 * k116) + i8) (vp_nar .boolean 0)) (hM.ne (i := 2) (j := 13) (by decide) (by decide) (by decide)) k116 v97).trans rw87
                      have rw100 := (zpi_off (zpi S116_ (ad 6) ((62 * k116) + i8) (vp_nar .boolean 0)) (hM.ne (i := 3) (j := 13) (by decide) (by decide) (by decide)) k116 v97).trans rw88
                      have rw101 := (zpi_off (zpi S116_ (ad 6) ((62 * k116) + i8) (vp_nar .boolean 0)) (hM.ne (i := 4) (j := 13) (by decide) (by decide) (by decide)) k116 v97).trans rw89
                      have rw102 := (zpi_off (zpi S116_ (ad 6) ((62 * k116) + i8) (vp_nar .boolean 0)) (hM.ne (i := 5) (j := 13) (by decide) (by decide) (by decide)) k116 v97).trans rw90
                      have rw103 := (zpi_off (zpi S116_ (ad 6) ((62 * k116) + i8) (vp_nar .boolean 0)) (hM.ne (i := 6) (j := 13) (by decide) (by decide) (by decide)) k116 v97).trans rw91
                      have hz104 : zZr ((zpi (zpi S116_ (ad 6) ((62 * k116) + i8) (vp_nar .boolean 0)) (ad 13) k116 v97).1 (ad 6)) := by rw [zpi_off (zpi S116_ (ad 6) ((62 * k116) + i8) (vp_nar .boolean 0)) (hM.ne (i := 6) (j := 13) (by decide) (by decide) (by decide))]; exact hz92
                      rw [(nI_clamp (n := k116) (by omega))] at hP hD
                      have hst := zC.pa hM hst (k := 13) (by decide) (by decide) k116 v97
                      have kn105 := zpi_af hM (zpi S116_ (ad 6) ((62 * k116) + i8) (vp_nar .boolean 0)) (k := 13) (by decide) k116 v97 (i := 0) kn93
                      have kn106 := zpi_o hM (zpi S116_ (ad 6) ((62 * k116) + i8) (vp_nar .boolean 0)) (i := 6) (k := 13) (by decide) (by decide) (by decide) k116 v97 kn94
                      have hI := hI.free hM (k := 13) (by decide) (by decide) k116 v97
                      have kn107 := zpi_s (zpi S116_ (ad 6) ((62 * k116) + i8) (vp_nar .boolean 0)) (ad 13) k116 v97
                      obtain ⟨v108, ev108⟩ : ∃ y : Int32, y = (nI k116) + 1 := ⟨_, rfl⟩
                      refine lv_iinc (v := v108) (lv' := [(5, .int v108), (0, .ref mo), (1, .int (nI i8)), (2, .int (nI L8)), (3, .int (nI j8)), (4, .int e1)]) hx hb dX7_frame_165 hl (k := 5) rfl (by rw [ev108]; rfl) (by decide) rfl (fun ls hl => ?_)
                      refine lv_goto (tgt := 116) hx hb dX7_frame_168 (by decide) ?_
                      have e9 : v108 = nI (k116 + 1) := by rw [ev108]; exact nI_1 k116
                      rw [e9] at hl
                      exact ih () (zpi (zpi S116_ (ad 6) ((62 * k116) + i8) (vp_nar .boolean 0)) (ad 13) k116 v97) H locs ls ⟨hst, hI, kn105, hz104, rw98, rw99, rw100, rw101, rw102, by rw [rw103]; exact hq116_.step⟩ hP hD hS (lv_sub hl [1, 2, 3, 4, 5, 0] rfl)
                    · skip
                      refine lv_iconst (v := (-1)) hx hb dX7_frame_153 (by decide) ?_
                      refine lv_goto (tgt := 164) hx hb dX7_frame_154 (by decide) ?_
                      refine ziast (x := (-1)) hx hb hK hP hD hS (hM.2.1 13 (by decide)).2.1 (show G.2.2 (ad 13) = 8 from (hM.2.1 13 (by decide)).2.2) (vp_in_nI (n := k116) (N := 8) (by omega) (by omega)) dX7_frame_164 (fun H locs hP hD hS => ?_)
                      have rw109 := (zpi_off (zpi S116_ (ad 6) ((62 * k116) + i8) (vp_nar .boolean 0)) (hM.ne (i := 1) (j := 13) (by decide) (by decide) (by decide)) k116 (-1)).trans rw86
                      have rw110 := (zpi_off (zpi S116_ (ad 6) ((62 * k116) + i8) (vp_nar .boolean 0)) (hM.ne (i := 2) (j := 13) (by decide) (by decide) (by decide)) k116 (-1)).trans rw87
                      have rw111 := (zpi_off (zpi S116_ (ad 6) ((62 * k116) + i8) (vp_nar .boolean 0)) (hM.ne (i := 3) (j := 13) (by decide) (by decide) (by decide)) k116 (-1)).trans rw88
                      have rw112 := (zpi_off (zpi S116_ (ad 6) ((62 * k116) + i8) (vp_nar .boolean 0)) (hM.ne (i := 4) (j := 13) (by decide) (by decide) (by decide)) k116 (-1)).trans rw89
                      have rw113 := (zpi_off (zpi S116_ (ad 6) ((62 * k116) + i8) (vp_nar .boolean 0)) (hM.ne (i := 5) (j := 13) (by decide) (by decide) (by decide)) k116 (-1)).trans rw90
                      have rw114 := (zpi_off (zpi S116_ (ad 6) ((62 * k116) + i8) (vp_nar .boolean 0)) (hM.ne (i := 6) (j := 13) (by decide) (by decide) (by decide)) k116 (-1)).trans rw91
                      have hz115 : zZr ((zpi (zpi S116_ (ad 6) ((62 * k116) + i8) (vp_nar .boolean 0)) (ad 13) k116 (-1)).1 (ad 6)) := by rw [zpi_off (zpi S116_ (ad 6) ((62 * k116) + i8) (vp_nar .boolean 0)) (hM.ne (i := 6) (j := 13) (by decide) (by decide) (by decide))]; exact hz92
                      rw [(nI_clamp (n := k116) (by omega))] at hP hD
                      have hst := zC.pa hM hst (k := 13) (by decide) (by decide) k116 (-1)
                      have kn116 := zpi_af hM (zpi S116_ (ad 6) ((62 * k116) + i8) (vp_nar .boolean 0)) (k := 13) (by decide) k116 (-1) (i := 0) kn93
                      have kn117 := zpi_o hM (zpi S116_ (ad 6) ((62 * k116) + i8) (vp_nar .boolean 0)) (i := 6) (k := 13) (by decide) (by decide) (by decide) k116 (-1) kn94
                      have hI := hI.free hM (k := 13) (by decide) (by decide) k116 (-1)
                      have kn118 := zpi_s (zpi S116_ (ad 6) ((62 * k116) + i8) (vp_nar .boolean 0)) (ad 13) k116 (-1)
                      obtain ⟨v119, ev119⟩ : ∃ y : Int32, y = (nI k116) + 1 := ⟨_, rfl⟩
                      refine lv_iinc (v := v119) (lv' := [(5, .int v119), (0, .ref mo), (1, .int (nI i8)), (2, .int (nI L8)), (3, .int (nI j8)), (4, .int e1)]) hx hb dX7_frame_165 hl (k := 5) rfl (by rw [ev119]; rfl) (by decide) rfl (fun ls hl => ?_)
                      refine lv_goto (tgt := 116) hx hb dX7_frame_168 (by decide) ?_
                      have e9 : v119 = nI (k116 + 1) := by rw [ev119]; exact nI_1 k116
                      rw [e9] at hl
                      exact ih () (zpi (zpi S116_ (ad 6) ((62 * k116) + i8) (vp_nar .boolean 0)) (ad 13) k116 (-1)) H locs ls ⟨hst, hI, kn116, hz115, rw109, rw110, rw111, rw112, rw113, by rw [rw114]; exact hq116_.step⟩ hP hD hS (lv_sub hl [1, 2, 3, 4, 5, 0] rfl)
              · exact absurd (nI_le (a := 8) (b := 8) (Nat.le_refl _) (by omega)) c81
            · intro n8 k87 x9 S87_ H locs ls hk9 ih hJ9 hP hD hS hl
              obtain ⟨hst, hI, k087, hz87_, r1_87, r2_87, r3_87, r4_87, r6_87, hq87_⟩ := hJ9
              have hl : lv_has ls 6 [(0, .ref mo), (1, .int (nI i8)), (2, .int (nI L8)), (3, .int (nI j8)), (4, .int e1), (5, .int (nI k87))] := hl
              refine lv_iload hx hb dX7_frame_87 (lv_at hl 5 rfl) ?_
              refine lv_bipush (v := 8) hx hb dX7_frame_89 (by decide) ?_
              refine lv_icmp_ge (tgt := 113) hx hb dX7_frame_91 (by decide) (fun c120 => ?_) (fun c120 => ?_)
              · exact absurd c120 (nI_ge (a := k87) (b := 8) (by omega) (by omega))
              · skip
                refine lv_aload_n hx hb dX7_frame_94 rfl (lv_at hl 0 rfl) ?_
                refine zget (ci := 7) (C := RX7) (T := TX7) (N := 42) hx hb hts hi7 hown hK hP hM.1 rfl rfl 5 (by decide) (hts (.fieldLink RX7 23 "LinClusterModel" "bytes" "[I") (by decide +kernel)) (fun _ h9 => h9) (v := .ref (ad 5)) (congrArg (fun z => some (va_rf z)) (((hM.eq hst.1).2.1 5 (by decide)).1)) dX7_frame_95 ?_
                refine lv_bipush (v := 8) hx hb dX7_frame_98 (by decide) ?_
                refine lv_iload_n hx hb dX7_frame_100 rfl (lv_at hl 1 rfl) ?_
                refine lv_imul hx hb dX7_frame_101 ?_
                refine lv_topi (fun v121 ev121 => ?_)
                obtain rfl : v121 = nI (8 * i8) := ev121.trans (pk_mul 8 i8)
                refine lv_iload hx hb dX7_frame_102 (lv_at hl 5 rfl) ?_
                refine lv_iadd hx hb dX7_frame_104 ?_
                refine lv_topi (fun v122 ev122 => ?_)
                obtain rfl : v122 = nI ((8 * i8) + k87) := ev122.trans (nI_add (8 * i8) k87)
                refine lv_iconst (v := 0) hx hb dX7_frame_105 (by decide) ?_
                refine ziast (x := 0) hx hb hK hP hD hS (hM.2.1 5 (by decide)).2.1 (show G.2.2 (ad 5) = 496 from (hM.2.1 5 (by decide)).2.2) (vp_in_nI (n := ((8 * i8) + k87)) (N := 496) (by omega) (by omega)) dX7_frame_106 (fun H locs hP hD hS => ?_)
                have rw123 := (zpi_off S87_ (hM.ne (i := 1) (j := 5) (by decide) (by decide) (by decide)) ((8 * i8) + k87) 0).trans r1_87
                have rw124 := (zpi_off S87_ (hM.ne (i := 2) (j := 5) (by decide) (by decide) (by decide)) ((8 * i8) + k87) 0).trans r2_87
                have rw125 := (zpi_off S87_ (hM.ne (i := 3) (j := 5) (by decide) (by decide) (by decide)) ((8 * i8) + k87) 0).trans r3_87
                have rw126 := (zpi_off S87_ (hM.ne (i := 4) (j := 5) (by decide) (by decide) (by decide)) ((8 * i8) + k87) 0).trans r4_87
                have rw127 := (zpi_off S87_ (hM.ne (i := 6) (j := 5) (by decide) (by decide) (by decide)) ((8 * i8) + k87) 0).trans r6_87
                have rw128 : (zpi S87_ (ad 5) ((8 * i8) + k87) 0).1 (ad 5) = (upd (S87_.1 (ad 5)) ((8 * i8) + k87) 0) := by rw [zpi_row, (rfl : S87_.1 (ad 5) = S87_.1 (ad 5))]
                have hz129 : zZr ((zpi S87_ (ad 5) ((8 * i8) + k87) 0).1 (ad 6)) := by rw [zpi_off S87_ (hM.ne (i := 6) (j := 5) (by decide) (by decide) (by decide))]; exact hz87_
                rw [(nI_clamp (n := ((8 * i8) + k87)) (by omega))] at hP hD
                have hst := zC.pa hM hst (k := 5) (by decide) (by decide) ((8 * i8) + k87) 0
                have kn130 := zpi_af hM S87_ (k := 5) (by decide) ((8 * i8) + k87) 0 (i := 0) k087
                have hI := hI.free hM (k := 5) (by decide) (by decide) ((8 * i8) + k87) 0
                have kn131 := zpi_s S87_ (ad 5) ((8 * i8) + k87) 0
                obtain ⟨v132, ev132⟩ : ∃ y : Int32, y = (nI k87) + 1 := ⟨_, rfl⟩
                refine lv_iinc (v := v132) (lv' := [(5, .int v132), (0, .ref mo), (1, .int (nI i8)), (2, .int (nI L8)), (3, .int (nI j8)), (4, .int e1)]) hx hb dX7_frame_107 hl (k := 5) rfl (by rw [ev132]; rfl) (by decide) rfl (fun ls hl => ?_)
                refine lv_goto (tgt := 87) hx hb dX7_frame_110 (by decide) ?_
                have e9 : v132 = nI (k87 + 1) := by rw [ev132]; exact nI_1 k87
                rw [e9] at hl
                exact ih () (zpi S87_ (ad 5) ((8 * i8) + k87) 0) H locs ls ⟨hst, hI, kn130, hz129, rw123, rw124, rw125, rw126, rw127, by rw [rw128]; exact hq87_.step (by omega)⟩ hP hD hS (lv_sub hl [1, 2, 3, 4, 5, 0] rfl)
          · exact absurd c38 (by decide)
        · skip
          refine lv_iconst (v := 2) hx hb dX7_frame_39 (by decide) ?_
          refine lv_goto (tgt := 44) hx hb dX7_frame_40 (by decide) ?_
          refine zputi (ci := 7) (v := 2) (ty := .int) (C := RX7) (T := TX7) (N := 42) hx hb hts hi7 tyX7 tyX7_ok nmX7 hown hK hP hD hS hM.1 rfl rfl 0 (by decide) (hts (.fieldLink RX7 117 "LinClusterModel" "thrown" "I") (by decide +kernel)) (fun _ h9 => h9) rfl (by decide +kernel) rfl rfl (Nat.le_of_ble_eq_true rfl) rfl dX7_frame_44 (fun H locs hP hD hS => ?_)
          have rw133 := (zpi_off S (hM.mo (i := 1) (by decide)) 0 2).trans (rfl : S.1 (ad 1) = S.1 (ad 1))
          have rw134 := (zpi_off S (hM.mo (i := 2) (by decide)) 0 2).trans (rfl : S.1 (ad 2) = S.1 (ad 2))
          have rw135 := (zpi_off S (hM.mo (i := 3) (by decide)) 0 2).trans (rfl : S.1 (ad 3) = S.1 (ad 3))
          have rw136 := (zpi_off S (hM.mo (i := 4) (by decide)) 0 2).trans (rfl : S.1 (ad 4) = S.1 (ad 4))
          have rw137 := (zpi_off S (hM.mo (i := 5) (by decide)) 0 2).trans (rfl : S.1 (ad 5) = S.1 (ad 5))
          have rw138 := (zpi_off S (hM.mo (i := 6) (by decide)) 0 2).trans (rfl : S.1 (ad 6) = S.1 (ad 6))
          have hz139 : zZr ((zpi S mo 0 2).1 (ad 6)) := by rw [zpi_off S (hM.mo (i := 6) (by decide))]; exact hz0
          have hst := zC.pf hM hst (k := 0) (by decide) 2
          have hI := hI.ffree hM (k := 0) (by decide) 2
          have kn140 := zpi_s S mo 0 2
          refine lv_aload_n hx hb dX7_frame_47 rfl (lv_at hl 0 rfl) ?_
          refine zget (ci := 7) (C := RX7) (T := TX7) (N := 42) hx hb hts hi7 hown hK hP hM.1 rfl rfl 0 (by decide) (hts (.fieldLink RX7 117 "LinClusterModel" "thrown" "I") (by decide +kernel)) (fun _ h9 => h9) rfl dX7_frame_48 ?_
          refine lv_topi (fun v141 ev141 => ?_)
          obtain rfl : v141 = 2 := ev141.trans kn140
          refine lv_if_le (tgt := 55) hx hb dX7_frame_51 (by decide) (fun c142 => ?_) (fun c142 => ?_)
          · exact absurd c142 (by decide)
          · skip
            exact W.vret hx hb hr (fun t ht hW => ⟨⟨(zpi S mo 0 2), rfl, ⟨⟨hst, hI⟩, ⟨by rw [kn140]; unfold kFrame; rw [if_neg (fun z9 => z9.elim (zii1 hr1 c2).1 (fun z8 => z8.elim (fun z7 => (zii1 hr1 c2).2 ((zcv (a := 61) (b := 62) (by decide)).mpr z7)) (fun z7 => z7.elim (zii1 hr13 c14).1 (fun z6 => z6.elim (zii1 hr13 c14).2 (zn8 hj8))))), if_pos (Int32.not_le.mp (fun z9 => c28 (by rw [ev27]; exact z9)))], fun z9 => absurd (kn140.symm.trans z9) (by decide), fun _ => ⟨rw133, rw134, rw135, rw136, rw137, rw138⟩, hz139⟩⟩, by rw [ht]; exact hP, va_K.moved hW.alike hK, hD⟩, hS.F ht⟩) hS.2.2 dX7_frame_54
      · skip
        refine lv_iconst (v := 1) hx hb dX7_frame_28 (by decide) ?_
        refine lv_goto (tgt := 44) hx hb dX7_frame_29 (by decide) ?_
        refine zputi (ci := 7) (v := 1) (ty := .int) (C := RX7) (T := TX7) (N := 42) hx hb hts hi7 tyX7 tyX7_ok nmX7 hown hK hP hD hS hM.1 rfl rfl 0 (by decide) (hts (.fieldLink RX7 117 "LinClusterModel" "thrown" "I") (by decide +kernel)) (fun _ h9 => h9) rfl (by decide +kernel) rfl rfl (Nat.le_of_ble_eq_true rfl) rfl dX7_frame_44 (fun H locs hP hD hS => ?_)
        have rw143 := (zpi_off S (hM.mo (i := 1) (by decide)) 0 1).trans (rfl : S.1 (ad 1) = S.1 (ad 1))
        have rw144 := (zpi_off S (hM.mo (i := 2) (by decide)) 0 1).trans (rfl : S.1 (ad 2) = S.1 (ad 2))
        have rw145 := (zpi_off S (hM.mo (i := 3) (by decide)) 0 1).trans (rfl : S.1 (ad 3) = S.1 (ad 3))
        have rw146 := (zpi_off S (hM.mo (i := 4) (by decide)) 0 1).trans (rfl : S.1 (ad 4) = S.1 (ad 4))
        have rw147 := (zpi_off S (hM.mo (i := 5) (by decide)) 0 1).trans (rfl : S.1 (ad 5) = S.1 (ad 5))
        have rw148 := (zpi_off S (hM.mo (i := 6) (by decide)) 0 1).trans (rfl : S.1 (ad 6) = S.1 (ad 6))
        have hz149 : zZr ((zpi S mo 0 1).1 (ad 6)) := by rw [zpi_off S (hM.mo (i := 6) (by decide))]; exact hz0
        have hst := zC.pf hM hst (k := 0) (by decide) 1
        have hI := hI.ffree hM (k := 0) (by decide) 1
        have kn150 := zpi_s S mo 0 1
        refine lv_aload_n hx hb dX7_frame_47 rfl (lv_at hl 0 rfl) ?_
        refine zget (ci := 7) (C := RX7) (T := TX7) (N := 42) hx hb hts hi7 hown hK hP hM.1 rfl rfl 0 (by decide) (hts (.fieldLink RX7 117 "LinClusterModel" "thrown" "I") (by decide +kernel)) (fun _ h9 => h9) rfl dX7_frame_48 ?_
        refine lv_topi (fun v151 ev151 => ?_)
        obtain rfl : v151 = 1 := ev151.trans kn150
        refine lv_if_le (tgt := 55) hx hb dX7_frame_51 (by decide) (fun c152 => ?_) (fun c152 => ?_)
        · exact absurd c152 (by decide)
        · skip
          exact W.vret hx hb hr (fun t ht hW => ⟨⟨(zpi S mo 0 1), rfl, ⟨⟨hst, hI⟩, ⟨by rw [kn150]; exact (if_pos (Or.inr (Or.inr (Or.inr (Or.inr (zin7b hr25 c26)))))).symm, fun z9 => absurd (kn150.symm.trans z9) (by decide), fun _ => ⟨rw143, rw144, rw145, rw146, rw147, rw148⟩, hz149⟩⟩, by rw [ht]; exact hP, va_K.moved hW.alike hK, hD⟩, hS.F ht⟩) hS.2.2 dX7_frame_54
