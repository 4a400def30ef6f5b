set_option maxHeartbeats 4000000 in
set_option maxRecDepth 100000 in
theorem c_X7_write (l : Launch) (dC : Nat → ClassId) (dI : Nat → Nat → Nat) (cy : Nat → ClassId) (G : zG) (S : zS) (sz : Nat) (mo : Nat) (ad : Nat → Nat) (id b u : Int32) (hM : zM G S mo ad) (hI : zI mo ad S) : Met l yX7_write wsX7_write ({ frames := 2, cells := 0, slots := 0, locals := 43 }) (zP dC dI cy [.ref mo, .int id, .int b, .int u] G S sz) (va_Qi (fun (r : Int32) S' => (zC mo ad [5] [0] S S' ∧ zI mo ad S') ∧ ∃ q, zmo S ad id q ∧ S'.1 mo 0 = kWrite q b u ∧ (S'.1 mo 0 = 0 → ∃ j i, j < 62 ∧ i < 8 ∧ id = nI j ∧ b = nI i ∧ r = S.1 (ad 5) (8 * j + i) ∧ S'.1 (ad 5) = upd (S.1 (ad 5)) (8 * j + i) u) ∧ (¬ S'.1 mo 0 = 0 → S'.1 (ad 5) = S.1 (ad 5))) (zB dC dI cy (zA cy G S sz) G) (zA cy G S sz)) 0 0 (zA cy G S sz) := by
  refine Met.ofW (cc := cX7_write) (maxL := 5) (ret := (some .int)) (by decide) rfl ?_
  intro p e s m args below meth c s₁ B hml hv
  obtain ⟨rfl, hsz, hP, hK, hD0, hN⟩ := hv
  have hx := B.exec
  have hb := B.bytes
  have hr := B.returns
  have hts := atoms_spec (ws := wsX7_write) B.pre
  have hown : s.vm.findClass RX7 = some m.cls := findClass_of_methodNamed B.named
  have hlocks := B.notSynchronized
  subst hsz
  have hD : va_D (zA cy G S s.heap.size) (zW cy G S) := hD0.self
  generalize hAe : zA cy G S s.heap.size = A at hD ⊢
  have hA : ∀ q : Nat, s.heap.size ≤ q → A q := fun q h => by rw [← hAe]; exact Or.inr h
  have hS : va_S A s.heap s.heap [] := va_S.rf
  have hst := zC.refl mo ad [5] [0] S
  have hl := lv_entry ([.ref mo, .int id, .int b, .int u]) (n := 5) (Nat.le_of_ble_eq_true rfl)
  rw [lg_entry_eq]
  generalize (lg_sl ([.ref mo, .int id, .int b, .int u]) ++ List.replicate (5 - (lg_sl ([.ref mo, .int id, .int b, .int u])).length) Slot.unset).toArray = ls at hl ⊢
  have hl : lv_has ls 5 [(0, .ref mo), (1, .int id), (2, .int b), (3, .int u)] := hl
  have hi7 : ∀ w ∈ wsX70, w ∈ wsX7_write := by decide +kernel
  refine lv_aload_n hx hb dX7_write_0 rfl (lv_at hl 0 rfl) ?_
  refine lv_aload_n hx hb dX7_write_1 rfl (lv_at hl 0 rfl) ?_
  refine lv_iload_n hx hb dX7_write_2 rfl (lv_at hl 1 rfl) ?_
  refine vp_callSi (va_Run.run (va_runV (As := [.int id]) (rest := [.ref mo]) ⟨hx, hb, hml, hown, hts⟩ (c_X7_isFrame l dC dI cy G S s.heap.size mo ad id (hM.eq hst.1)) (cwV 1 hts gX7_write_X7_isFrame rfl rfl rfl (by decide +kernel) ⟨Nat.le_of_ble_eq_true rfl, Nat.le_of_ble_eq_true rfl⟩) (zpreV hK hP hD hN (zrecv7 hK hP hM.1)) rfl rfl hl.1 rfl (lv_room (Nat.le_of_ble_eq_true rfl)) dX7_write_3 ⟨Nat.le_of_ble_eq_true rfl, Nat.le_of_ble_eq_true rfl⟩)) (fun r1 hr1 => ?_)
  refine lv_if_eq (tgt := 36) hx hb dX7_write_6 (by decide) (fun c2 => ?_) (fun c2 => ?_)
  · skip
    refine lv_iconst (v := 1) hx hb dX7_write_36 (by decide) ?_
    refine lv_goto (tgt := 41) hx hb dX7_write_37 (by decide) ?_
    refine zputi (ci := 7) (v := 1) (ty := .int) (C := RX7) (T := TX7) (N := 42) hx hb hts hi7 tyX7 tyX7_ok nmX7 hown hK hP hD hS hM.1 rfl rfl 0 (by decide) (hts (.fieldLink RX7 117 "LinClusterModel" "thrown" "I") (by decide +kernel)) (fun _ h9 => h9) rfl (by decide +kernel) rfl rfl (Nat.le_of_ble_eq_true rfl) rfl dX7_write_41 (fun H locs hP hD hS => ?_)
    have hst := zC.pf hM hst (k := 0) (by decide) 1
    have hI := hI.ffree hM (k := 0) (by decide) 1
    have kn3 := zpi_s S mo 0 1
    refine lv_aload_n hx hb dX7_write_44 rfl (lv_at hl 0 rfl) ?_
    refine zget (ci := 7) (C := RX7) (T := TX7) (N := 42) hx hb hts hi7 hown hK hP hM.1 rfl rfl 0 (by decide) (hts (.fieldLink RX7 117 "LinClusterModel" "thrown" "I") (by decide +kernel)) (fun _ h9 => h9) rfl dX7_write_45 ?_
    refine lv_topi (fun v4 ev4 => ?_)
    obtain rfl : v4 = 1 := ev4.trans kn3
    refine lv_if_le (tgt := 53) hx hb dX7_write_48 (by decide) (fun c5 => ?_) (fun c5 => ?_)
    · exact absurd c5 (by decide)
    · skip
      refine lv_iconst (v := 0) hx hb dX7_write_51 (by decide) ?_
      exact W.iret (v := 0) hx hb hr (fun t ht hW => ⟨⟨0, (zpi S mo 0 1), rfl, ⟨⟨hst, hI⟩, ⟨none, (zmo0 (zfr0 hr1 c2)), by show _ = (1 : Int32); rw [kn3], fun z9 => absurd (kn3.symm.trans z9) (by decide), fun _ => zpi_off S (hM.mo (i := 5) (by decide)) _ _⟩⟩, by rw [ht]; exact hP, va_K.moved hW.alike hK, hD⟩, hS.F ht⟩) hS.2.2 dX7_write_52
  · skip
    obtain ⟨i8, hi8, rfl, hth8⟩ := zfr1 hr1 c2
    refine lv_iload_n hx hb dX7_write_9 rfl (lv_at hl 2 rfl) ?_
    refine lv_iconst (v := 0) hx hb dX7_write_10 (by decide) ?_
    refine lv_aload_n hx hb dX7_write_11 rfl (lv_at hl 0 rfl) ?_
    refine zget (ci := 7) (C := RX7) (T := TX7) (N := 42) hx hb hts hi7 hown hK hP hM.1 rfl rfl 2 (by decide) (hts (.fieldLink RX7 13 "LinClusterModel" "lengths" "[I") (by decide +kernel)) (fun _ h9 => h9) (v := .ref (ad 2)) (congrArg (fun z => some (va_rf z)) (((hM.eq hst.1).2.1 2 (by decide)).1)) dX7_write_12 ?_
    refine lv_iload_n hx hb dX7_write_15 rfl (lv_at hl 1 rfl) ?_
    refine ziald hx hb hK hP (hM.2.1 2 (by decide)).2.1 (show G.2.2 (ad 2) = 62 from (hM.2.1 2 (by decide)).2.2) (vp_in_nI (n := i8) (N := 62) (by omega) (by omega)) dX7_write_16 ?_
    refine lv_topi (fun v6 ev6 => ?_)
    rw [(nI_clamp (n := i8) (by omega))] at ev6
    obtain ⟨L8, hL8, eL8⟩ := hI.len hi8
    obtain rfl : v6 = nI L8 := ev6.trans eL8
    refine lv_iconst (v := 1) hx hb dX7_write_17 (by decide) ?_
    refine lv_isub hx hb dX7_write_18 ?_
    refine lv_topi (fun v7 ev7 => ?_)
    refine vp_callSi (va_Run.run (va_runS (As := [.int b, .int 0, .int v7]) (rest := [.ref mo]) ⟨hx, hb, hml, hown, hts⟩ (c_X7_isIn l b 0 v7) (va_cwS 3 hts gX7_write_X7_isIn rfl rfl rfl (by decide +kernel) ⟨Nat.le_of_ble_eq_true rfl, Nat.le_of_ble_eq_true rfl⟩) zpreS0 rfl rfl hl.1 rfl (lv_room (Nat.le_of_ble_eq_true rfl)) dX7_write_19 ⟨Nat.le_of_ble_eq_true rfl, Nat.le_of_ble_eq_true rfl⟩)) (fun r8 hr8 => ?_)
    refine lv_if_eq (tgt := 36) hx hb dX7_write_22 (by decide) (fun c9 => ?_) (fun c9 => ?_)
    · skip
      refine lv_iconst (v := 1) hx hb dX7_write_36 (by decide) ?_
      refine lv_goto (tgt := 41) hx hb dX7_write_37 (by decide) ?_
      refine zputi (ci := 7) (v := 1) (ty := .int) (C := RX7) (T := TX7) (N := 42) hx hb hts hi7 tyX7 tyX7_ok nmX7 hown hK hP hD hS hM.1 rfl rfl 0 (by decide) (hts (.fieldLink RX7 117 "LinClusterModel" "thrown" "I") (by decide +kernel)) (fun _ h9 => h9) rfl (by decide +kernel) rfl rfl (Nat.le_of_ble_eq_true rfl) rfl dX7_write_41 (fun H locs hP hD hS => ?_)
      have hst := zC.pf hM hst (k := 0) (by decide) 1
      have hI := hI.ffree hM (k := 0) (by decide) 1
      have kn10 := zpi_s S mo 0 1
      refine lv_aload_n hx hb dX7_write_44 rfl (lv_at hl 0 rfl) ?_
      refine zget (ci := 7) (C := RX7) (T := TX7) (N := 42) hx hb hts hi7 hown hK hP hM.1 rfl rfl 0 (by decide) (hts (.fieldLink RX7 117 "LinClusterModel" "thrown" "I") (by decide +kernel)) (fun _ h9 => h9) rfl dX7_write_45 ?_
      refine lv_topi (fun v11 ev11 => ?_)
      obtain rfl : v11 = 1 := ev11.trans kn10
      refine lv_if_le (tgt := 53) hx hb dX7_write_48 (by decide) (fun c12 => ?_) (fun c12 => ?_)
      · exact absurd c12 (by decide)
      · skip
        refine lv_iconst (v := 0) hx hb dX7_write_51 (by decide) ?_
        exact W.iret (v := 0) hx hb hr (fun t ht hW => ⟨⟨0, (zpi S mo 0 1), rfl, ⟨⟨hst, hI⟩, ⟨_, zmo1 hi8 hth8, by rw [kn10]; exact (if_pos (Or.inl ((zii0 hr8 c9).imp (fun q => q) (fun z9 => by rw [eL8]; exact (zlm hL8 _).mp (by rw [← ev7]; exact z9))))).symm, fun z9 => absurd (kn10.symm.trans z9) (by decide), fun _ => zpi_off S (hM.mo (i := 5) (by decide)) _ _⟩⟩, by rw [ht]; exact hP, va_K.moved hW.alike hK, hD⟩, hS.F ht⟩) hS.2.2 dX7_write_52
    · skip
      obtain ⟨b8, hb8, rfl⟩ := zbyt hL8 (zii1 hr8 c9)
      refine lv_iload_n hx hb dX7_write_25 rfl (lv_at hl 3 rfl) ?_
      refine lv_iconst (v := 0) hx hb dX7_write_26 (by decide) ?_
      refine lv_sipush (v := 255) hx hb dX7_write_27 (by decide) ?_
      refine vp_callSi (va_Run.run (va_runS (As := [.int u, .int 0, .int 255]) (rest := [.ref mo]) ⟨hx, hb, hml, hown, hts⟩ (c_X7_isIn l u 0 255) (va_cwS 3 hts gX7_write_X7_isIn rfl rfl rfl (by decide +kernel) ⟨Nat.le_of_ble_eq_true rfl, Nat.le_of_ble_eq_true rfl⟩) zpreS0 rfl rfl hl.1 rfl (lv_room (Nat.le_of_ble_eq_true rfl)) dX7_write_30 ⟨Nat.le_of_ble_eq_true rfl, Nat.le_of_ble_eq_true rfl⟩)) (fun r13 hr13 => ?_)
      refine lv_if_ne (tgt := 40) hx hb dX7_write_33 (by decide) (fun c14 => ?_) (fun c14 => ?_)
      · skip
        refine lv_iconst (v := 0) hx hb dX7_write_40 (by decide) ?_
        refine zputi (ci := 7) (v := 0) (ty := .int) (C := RX7) (T := TX7) (N := 42) hx hb hts hi7 tyX7 tyX7_ok nmX7 hown hK hP hD hS hM.1 rfl rfl 0 (by decide) (hts (.fieldLink RX7 117 "LinClusterModel" "thrown" "I") (by decide +kernel)) (fun _ h9 => h9) rfl (by decide +kernel) rfl rfl (Nat.le_of_ble_eq_true rfl) rfl dX7_write_41 (fun H locs hP hD hS => ?_)
        have hst := zC.pf hM hst (k := 0) (by decide) 0
        have hI := hI.ffree hM (k := 0) (by decide) 0
        have kn15 := zpi_s S mo 0 0
        refine lv_aload_n hx hb dX7_write_44 rfl (lv_at hl 0 rfl) ?_
        refine zget (ci := 7) (C := RX7) (T := TX7) (N := 42) hx hb hts hi7 hown hK hP hM.1 rfl rfl 0 (by decide) (hts (.fieldLink RX7 117 "LinClusterModel" "thrown" "I") (by decide +kernel)) (fun _ h9 => h9) rfl dX7_write_45 ?_
        refine lv_topi (fun v16 ev16 => ?_)
        obtain rfl : v16 = 0 := ev16.trans kn15
        refine lv_if_le (tgt := 53) hx hb dX7_write_48 (by decide) (fun c17 => ?_) (fun c17 => ?_)
        · skip
          refine lv_aload_n hx hb dX7_write_53 rfl (lv_at hl 0 rfl) ?_
          refine zget (ci := 7) (C := RX7) (T := TX7) (N := 42) hx hb hts hi7 hown hK hP hM.1 rfl rfl 5 (by decide) (hts (.fieldLink RX7 23 "LinClusterModel" "bytes" "[I") (by decide +kernel)) (fun _ h9 => h9) (v := .ref (ad 5)) (congrArg (fun z => some (va_rf z)) (((hM.eq hst.1).2.1 5 (by decide)).1)) dX7_write_54 ?_
          refine lv_bipush (v := 8) hx hb dX7_write_57 (by decide) ?_
          refine lv_iload_n hx hb dX7_write_59 rfl (lv_at hl 1 rfl) ?_
          refine lv_imul hx hb dX7_write_60 ?_
          refine lv_topi (fun v18 ev18 => ?_)
          obtain rfl : v18 = nI (8 * i8) := ev18.trans (pk_mul 8 i8)
          refine lv_iload_n hx hb dX7_write_61 rfl (lv_at hl 2 rfl) ?_
          refine lv_iadd hx hb dX7_write_62 ?_
          refine lv_topi (fun v19 ev19 => ?_)
          obtain rfl : v19 = nI ((8 * i8) + b8) := ev19.trans (nI_add (8 * i8) b8)
          refine ziald hx hb hK hP (hM.2.1 5 (by decide)).2.1 (show G.2.2 (ad 5) = 496 from (hM.2.1 5 (by decide)).2.2) (vp_in_nI (n := ((8 * i8) + b8)) (N := 496) (by omega) (by omega)) dX7_write_63 ?_
          refine lv_topi (fun v20 ev20 => ?_)
          rw [(nI_clamp (n := ((8 * i8) + b8)) (by omega))] at ev20
          refine lv_istore (lv' := [(4, .int v20), (0, .ref mo), (1, .int (nI i8)), (2, .int (nI b8)), (3, .int u)]) hx hb dX7_write_64 hl (by decide) rfl (fun ls hl => ?_)
          refine lv_aload_n hx hb dX7_write_66 rfl (lv_at hl 1 rfl) ?_
          refine zget (ci := 7) (C := RX7) (T := TX7) (N := 42) hx hb hts hi7 hown hK hP hM.1 rfl rfl 5 (by decide) (hts (.fieldLink RX7 23 "LinClusterModel" "bytes" "[I") (by decide +kernel)) (fun _ h9 => h9) (v := .ref (ad 5)) (congrArg (fun z => some (va_rf z)) (((hM.eq hst.1).2.1 5 (by decide)).1)) dX7_write_67 ?_
          refine lv_bipush (v := 8) hx hb dX7_write_70 (by decide) ?_
          refine lv_iload_n hx hb dX7_write_72 rfl (lv_at hl 2 rfl) ?_
          refine lv_imul hx hb dX7_write_73 ?_
          refine lv_topi (fun v21 ev21 => ?_)
          obtain rfl : v21 = nI (8 * i8) := ev21.trans (pk_mul 8 i8)
          refine lv_iload_n hx hb dX7_write_74 rfl (lv_at hl 3 rfl) ?_
          refine lv_iadd hx hb dX7_write_75 ?_
          refine lv_topi (fun v22 ev22 => ?_)
          obtain rfl : v22 = nI ((8 * i8) + b8) := ev22.trans (nI_add (8 * i8) b8)
          refine lv_iload_n hx hb dX7_write_76 rfl (lv_at hl 4 rfl) ?_
          refine ziast (x := u) hx hb hK hP hD hS (hM.2.1 5 (by decide)).2.1 (show G.2.2 (ad 5) = 496 from (hM.2.1 5 (by decide)).2.2) (vp_in_nI (n := ((8 * i8) + b8)) (N := 496) (by omega) (by omega)) dX7_write_77 (fun H locs hP hD hS => ?_)
          rw [(nI_clamp (n := ((8 * i8) + b8)) (by omega))] at hP hD
          have hst := zC.pa hM hst (k := 5) (by decide) (by decide) ((8 * i8) + b8) u
          have kn23 := zpi_af hM (zpi S mo 0 0) (k := 5) (by decide) ((8 * i8) + b8) u (i := 0) kn15
          have hI := hI.free hM (k := 5) (by decide) (by decide) ((8 * i8) + b8) u
          have kn24 := zpi_s (zpi S mo 0 0) (ad 5) ((8 * i8) + b8) u
          refine lv_iload hx hb dX7_write_78 (lv_at hl 0 rfl) ?_
          exact W.iret (v := v20) hx hb hr (fun t ht hW => ⟨⟨v20, (zpi (zpi S mo 0 0) (ad 5) ((8 * i8) + b8) u), rfl, ⟨⟨hst, hI⟩, ⟨_, zmo1 hi8 hth8, by rw [kn23]; exact (if_neg (fun z9 => z9.elim (fun z8 => z8.elim (zii1 hr8 c9).1 (fun z7 => (zii1 hr8 c9).2 (by rw [ev7]; exact (zlm hL8 _).mpr (by rw [← eL8]; exact z7)))) (fun z8 => z8.elim (zii1 hr13 c14).1 (fun z7 => z7 (Int32.not_lt.mp (zii1 hr13 c14).2))))).symm, fun _ => ⟨i8, b8, hi8, hb8, rfl, rfl, ev20.trans (congrFun (zpi_off S (hM.mo (i := 5) (by decide)) _ _) _), by rw [zpi_row, zpi_off S (hM.mo (i := 5) (by decide))]⟩, fun z9 => absurd kn23 z9⟩⟩, by rw [ht]; exact hP, va_K.moved hW.alike hK, hD⟩, hS.F ht⟩) hS.2.2 dX7_write_80
        · exact absurd c17 (by decide)
      · skip
        refine lv_iconst (v := 1) hx hb dX7_write_36 (by decide) ?_
        refine lv_goto (tgt := 41) hx hb dX7_write_37 (by decide) ?_
        refine zputi (ci := 7) (v := 1) (ty := .int) (C := RX7) (T := TX7) (N := 42) hx hb hts hi7 tyX7 tyX7_ok nmX7 hown hK hP hD hS hM.1 rfl rfl 0 (by decide) (hts (.fieldLink RX7 117 "LinClusterModel" "thrown" "I") (by decide +kernel)) (fun _ h9 => h9) rfl (by decide +kernel) rfl rfl (Nat.le_of_ble_eq_true rfl) rfl dX7_write_41 (fun H locs hP hD hS => ?_)
        have hst := zC.pf hM hst (k := 0) (by decide) 1
        have hI := hI.ffree hM (k := 0) (by decide) 1
        have kn25 := zpi_s S mo 0 1
        refine lv_aload_n hx hb dX7_write_44 rfl (lv_at hl 0 rfl) ?_
        refine zget (ci := 7) (C := RX7) (T := TX7) (N := 42) hx hb hts hi7 hown hK hP hM.1 rfl rfl 0 (by decide) (hts (.fieldLink RX7 117 "LinClusterModel" "thrown" "I") (by decide +kernel)) (fun _ h9 => h9) rfl dX7_write_45 ?_
        refine lv_topi (fun v26 ev26 => ?_)
        obtain rfl : v26 = 1 := ev26.trans kn25
        refine lv_if_le (tgt := 53) hx hb dX7_write_48 (by decide) (fun c27 => ?_) (fun c27 => ?_)
        · exact absurd c27 (by decide)
        · skip
          refine lv_iconst (v := 0) hx hb dX7_write_51 (by decide) ?_
          exact W.iret (v := 0) hx hb hr (fun t ht hW => ⟨⟨0, (zpi S mo 0 1), rfl, ⟨⟨hst, hI⟩, ⟨_, zmo1 hi8 hth8, by rw [kn25]; exact (if_pos (Or.inr ((zii0 hr13 c14).imp (fun q => q) Int32.not_le.mpr))).symm, fun z9 => absurd (kn25.symm.trans z9) (by decide), fun _ => zpi_off S (hM.mo (i := 5) (by decide)) _ _⟩⟩, by rw [ht]; exact hP, va_K.moved hW.alike hK, hD⟩, hS.F ht⟩) hS.2.2 dX7_write_52
set_option maxHeartbeats 4000000 in
set_option maxRecDepth 100000 in
theorem c_X7_isAsked (l : Launch) (dC : Nat → ClassId) (dI : Nat → Nat → Nat) (cy : Nat → ClassId) (G : zG) (S : zS) (sz : Nat) (mo : Nat) (ad : Nat → Nat) (v id : Int32) (hM : zM G S mo ad) : Met l yX7_isAsked wsX7_isAsked ({ frames := 2, cells := 0, slots := 0, locals := 43 }) (zP dC dI cy [.ref mo, .int v, .int id] G S sz) (vp_Si (fun r => ¬ r = 0 → (∃ j : Nat, j < 8 ∧ v = nI j) ∧ ∃ i : Nat, i < 62 ∧ id = nI i ∧ ¬ S.1 (ad 1) i = 0)) 0 0 (fun _ => False) := by
  refine Met.ofW (cc := cX7_isAsked) (maxL := 3) (ret := (some .boolean)) (by decide) rfl ?_
  intro p e s m args below meth c s₁ B hml hv
  obtain ⟨rfl, hsz, hP, hK, hD0, hN⟩ := hv
  have hx := B.exec
  have hb := B.bytes
  have hr := B.returns
  have hts := atoms_spec (ws := wsX7_isAsked) B.pre
  have hown : s.vm.findClass RX7 = some m.cls := findClass_of_methodNamed B.named
  have hlocks := B.notSynchronized
  subst hsz
  have hD := hD0
  have hst := zC.refl mo ad [] [] S
  have hl := lv_entry ([.ref mo, .int v, .int id]) (n := 3) (Nat.le_of_ble_eq_true rfl)
  rw [lg_entry_eq]
  generalize (lg_sl ([.ref mo, .int v, .int id]) ++ List.replicate (3 - (lg_sl ([.ref mo, .int v, .int id])).length) Slot.unset).toArray = ls at hl ⊢
  have hl : lv_has ls 3 [(0, .ref mo), (1, .int v), (2, .int id)] := hl
  have hi7 : ∀ w ∈ wsX70, w ∈ wsX7_isAsked := by decide +kernel
  refine lv_iload_n hx hb dX7_isAsked_0 rfl (lv_at hl 1 rfl) ?_
  refine vp_callSi (va_Run.run (va_runS (As := [.int v]) (rest := []) ⟨hx, hb, hml, hown, hts⟩ (c_X7_isNode l v) (va_cwS 1 hts gX7_isAsked_X7_isNode rfl rfl rfl (by decide +kernel) ⟨Nat.le_of_ble_eq_true rfl, Nat.le_of_ble_eq_true rfl⟩) zpreS0 rfl rfl hl.1 rfl (lv_room (Nat.le_of_ble_eq_true rfl)) dX7_isAsked_1 ⟨Nat.le_of_ble_eq_true rfl, Nat.le_of_ble_eq_true rfl⟩)) (fun r1 hr1 => ?_)
  refine lv_if_eq (tgt := 43) hx hb dX7_isAsked_4 (by decide) (fun c2 => ?_) (fun c2 => ?_)
  · skip
    refine lv_iconst (v := 0) hx hb dX7_isAsked_43 (by decide) ?_
    exact W.zret (v := 0) (ty := .boolean) hx hb hr rfl (fun t ht hW => ⟨0, rfl, (fun z9 => absurd rfl z9), ht⟩) (fun _ h => absurd h List.not_mem_nil) dX7_isAsked_44
  · skip
    obtain ⟨j8, hj8, rfl⟩ := zin7n hr1 c2
    refine lv_aload_n hx hb dX7_isAsked_7 rfl (lv_at hl 0 rfl) ?_
    refine lv_iload_n hx hb dX7_isAsked_8 rfl (lv_at hl 2 rfl) ?_
    refine vp_callSi (va_Run.run (va_runV (As := [.int id]) (rest := []) ⟨hx, hb, hml, hown, hts⟩ (c_X7_isFrame l dC dI cy G S s.heap.size mo ad id (hM.eq hst.1)) (cwV 1 hts gX7_isAsked_X7_isFrame rfl rfl rfl (by decide +kernel) ⟨Nat.le_of_ble_eq_true rfl, Nat.le_of_ble_eq_true rfl⟩) (zpreV hK hP hD hN (zrecv7 hK hP hM.1)) rfl rfl hl.1 rfl (lv_room (Nat.le_of_ble_eq_true rfl)) dX7_isAsked_9 ⟨Nat.le_of_ble_eq_true rfl, Nat.le_of_ble_eq_true rfl⟩)) (fun r3 hr3 => ?_)
    refine lv_if_eq (tgt := 43) hx hb dX7_isAsked_12 (by decide) (fun c4 => ?_) (fun c4 => ?_)
    · skip
      refine lv_iconst (v := 0) hx hb dX7_isAsked_43 (by decide) ?_
      exact W.zret (v := 0) (ty := .boolean) hx hb hr rfl (fun t ht hW => ⟨0, rfl, (fun z9 => absurd rfl z9), ht⟩) (fun _ h => absurd h List.not_mem_nil) dX7_isAsked_44
    · skip
      obtain ⟨i8, hi8, rfl, hth8⟩ := zfr1 hr3 c4
      refine lv_aload_n hx hb dX7_isAsked_15 rfl (lv_at hl 0 rfl) ?_
      refine zget (ci := 7) (C := RX7) (T := TX7) (N := 42) hx hb hts hi7 hown hK hP hM.1 rfl rfl 3 (by decide) (hts (.fieldLink RX7 17 "LinClusterModel" "publishers" "[I") (by decide +kernel)) (fun _ h9 => h9) (v := .ref (ad 3)) (congrArg (fun z => some (va_rf z)) (((hM.eq hst.1).2.1 3 (by decide)).1)) dX7_isAsked_16 ?_
      refine lv_iload_n hx hb dX7_isAsked_19 rfl (lv_at hl 2 rfl) ?_
      refine ziald hx hb hK hP (hM.2.1 3 (by decide)).2.1 (show G.2.2 (ad 3) = 62 from (hM.2.1 3 (by decide)).2.2) (vp_in_nI (n := i8) (N := 62) (by omega) (by omega)) dX7_isAsked_20 ?_
      refine lv_topi (fun v5 ev5 => ?_)
      rw [(nI_clamp (n := i8) (by omega))] at ev5
      refine lv_iload_n hx hb dX7_isAsked_21 rfl (lv_at hl 1 rfl) ?_
      refine lv_icmp_eq (tgt := 39) hx hb dX7_isAsked_22 (by decide) (fun c6 => ?_) (fun c6 => ?_)
      · skip
        refine lv_iconst (v := 1) hx hb dX7_isAsked_39 (by decide) ?_
        refine lv_goto (tgt := 44) hx hb dX7_isAsked_40 (by decide) ?_
        exact W.zret (v := 1) (ty := .boolean) hx hb hr rfl (fun t ht hW => ⟨1, rfl, (fun _ => ⟨⟨j8, hj8, rfl⟩, ⟨i8, hi8, rfl, hth8⟩⟩), ht⟩) (fun _ h => absurd h List.not_mem_nil) dX7_isAsked_44
      · skip
        refine lv_aload_n hx hb dX7_isAsked_25 rfl (lv_at hl 0 rfl) ?_
        refine zget (ci := 7) (C := RX7) (T := TX7) (N := 42) hx hb hts hi7 hown hK hP hM.1 rfl rfl 6 (by decide) (hts (.fieldLink RX7 26 "LinClusterModel" "listens" "[Z") (by decide +kernel)) (fun _ h9 => h9) (v := .ref (ad 6)) (congrArg (fun z => some (va_rf z)) (((hM.eq hst.1).2.1 6 (by decide)).1)) dX7_isAsked_26 ?_
        refine lv_bipush (v := 62) hx hb dX7_isAsked_29 (by decide) ?_
        refine lv_iload_n hx hb dX7_isAsked_31 rfl (lv_at hl 1 rfl) ?_
        refine lv_imul hx hb dX7_isAsked_32 ?_
        refine lv_topi (fun v7 ev7 => ?_)
        obtain rfl : v7 = nI (62 * j8) := ev7.trans (pk_mul 62 j8)
        refine lv_iload_n hx hb dX7_isAsked_33 rfl (lv_at hl 2 rfl) ?_
        refine lv_iadd hx hb dX7_isAsked_34 ?_
        refine lv_topi (fun v8 ev8 => ?_)
        obtain rfl : v8 = nI ((62 * j8) + i8) := ev8.trans (nI_add (62 * j8) i8)
        refine zzald hx hb hK hP (hM.2.1 6 (by decide)).2.1 (show G.2.2 (ad 6) = 496 from (hM.2.1 6 (by decide)).2.2) (vp_in_nI (n := ((62 * j8) + i8)) (N := 496) (by omega) (by omega)) dX7_isAsked_35 ?_
        refine lv_topi (fun v9 ev9 => ?_)
        rw [(nI_clamp (n := ((62 * j8) + i8)) (by omega))] at ev9
        refine lv_if_eq (tgt := 43) hx hb dX7_isAsked_36 (by decide) (fun c10 => ?_) (fun c10 => ?_)
        · skip
          have kn11 := ev9.symm.trans c10
          refine lv_iconst (v := 0) hx hb dX7_isAsked_43 (by decide) ?_
          exact W.zret (v := 0) (ty := .boolean) hx hb hr rfl (fun t ht hW => ⟨0, rfl, (fun z9 => absurd rfl z9), ht⟩) (fun _ h => absurd h List.not_mem_nil) dX7_isAsked_44
        · skip
          refine lv_iconst (v := 1) hx hb dX7_isAsked_39 (by decide) ?_
          refine lv_goto (tgt := 44) hx hb dX7_isAsked_40 (by decide) ?_
          exact W.zret (v := 1) (ty := .boolean) hx hb hr rfl (fun t ht hW => ⟨1, rfl, (fun _ => ⟨⟨j8, hj8, rfl⟩, ⟨i8, hi8, rfl, hth8⟩⟩), ht⟩) (fun _ h => absurd h List.not_mem_nil) dX7_isAsked_44
set_option maxHeartbeats 4000000 in
set_option maxRecDepth 100000 in
theorem c_X7_byteAt (l : Launch) (dC : Nat → ClassId) (dI : Nat → Nat → Nat) (cy : Nat → ClassId) (G : zG) (S : zS) (sz : Nat) (mo : Nat) (ad : Nat → Nat) (v id b : Int32) (hM : zM G S mo ad) (hI : zI mo ad S) : Met l yX7_byteAt wsX7_byteAt ({ frames := 3, cells := 0, slots := 0, locals := 65 }) (zP dC dI cy [.ref mo, .int v, .int id, .int b] G S sz) (va_Qi (fun (r : Int32) S' => (zC mo ad [] [0] S S' ∧ zI mo ad S') ∧ (S'.1 mo 0 = 1 ∨ ∃ j, j < 62 ∧ id = nI j ∧ ¬ S.1 (ad 1) j = 0)) (zB dC dI cy (zA cy G S sz) G) (zA cy G S sz)) 0 0 (zA cy G S sz) := by
  refine Met.ofW (cc := cX7_byteAt) (maxL := 4) (ret := (some .int)) (by decide) rfl ?_
  intro p e s m args below meth c s₁ B hml hv
  obtain ⟨rfl, hsz, hP, hK, hD0, hN⟩ := hv
  have hx := B.exec
  have hb := B.bytes
  have hr := B.returns
  have hts := atoms_spec (ws := wsX7_byteAt) B.pre
  have hown : s.vm.findClass RX7 = some m.cls := findClass_of_methodNamed B.named
  have hlocks := B.notSynchronized
  subst hsz
  have hD : va_D (zA cy G S s.heap.size) (zW cy G S) := hD0.self
  generalize hAe : zA cy G S s.heap.size = A at hD ⊢
  have hA : ∀ q : Nat, s.heap.size ≤ q → A q := fun q h => by rw [← hAe]; exact Or.inr h
  have hS : va_S A s.heap s.heap [] := va_S.rf
  have hst := zC.refl mo ad [] [0] S
  have hl := lv_entry ([.ref mo, .int v, .int id, .int b]) (n := 4) (Nat.le_of_ble_eq_true rfl)
  rw [lg_entry_eq]
  generalize (lg_sl ([.ref mo, .int v, .int id, .int b]) ++ List.replicate (4 - (lg_sl ([.ref mo, .int v, .int id, .int b])).length) Slot.unset).toArray = ls at hl ⊢
  have hl : lv_has ls 4 [(0, .ref mo), (1, .int v), (2, .int id), (3, .int b)] := hl
  have hi7 : ∀ w ∈ wsX70, w ∈ wsX7_byteAt := by decide +kernel
  refine lv_aload_n hx hb dX7_byteAt_0 rfl (lv_at hl 0 rfl) ?_
  refine lv_aload_n hx hb dX7_byteAt_1 rfl (lv_at hl 0 rfl) ?_
  refine lv_iload_n hx hb dX7_byteAt_2 rfl (lv_at hl 1 rfl) ?_
  refine lv_iload_n hx hb dX7_byteAt_3 rfl (lv_at hl 2 rfl) ?_
  refine vp_callSi (va_Run.run (va_runV (As := [.int v, .int id]) (rest := [.ref mo]) ⟨hx, hb, hml, hown, hts⟩ (c_X7_isAsked l dC dI cy G S s.heap.size mo ad v id (hM.eq hst.1)) (cwV 2 hts gX7_byteAt_X7_isAsked rfl rfl rfl (by decide +kernel) ⟨Nat.le_of_ble_eq_true rfl, Nat.le_of_ble_eq_true rfl⟩) (zpreV hK hP hD hN (zrecv7 hK hP hM.1)) rfl rfl hl.1 rfl (lv_room (Nat.le_of_ble_eq_true rfl)) dX7_byteAt_4 ⟨Nat.le_of_ble_eq_true rfl, Nat.le_of_ble_eq_true rfl⟩)) (fun r1 hr1 => ?_)
  refine lv_if_eq (tgt := 30) hx hb dX7_byteAt_7 (by decide) (fun c2 => ?_) (fun c2 => ?_)
  · skip
    refine lv_iconst (v := 1) hx hb dX7_byteAt_30 (by decide) ?_
    refine zputi (ci := 7) (v := 1) (ty := .int) (C := RX7) (T := TX7) (N := 42) hx hb hts hi7 tyX7 tyX7_ok nmX7 hown hK hP hD hS hM.1 rfl rfl 0 (by decide) (hts (.fieldLink RX7 117 "LinClusterModel" "thrown" "I") (by decide +kernel)) (fun _ h9 => h9) rfl (by decide +kernel) rfl rfl (Nat.le_of_ble_eq_true rfl) rfl dX7_byteAt_31 (fun H locs hP hD hS => ?_)
    have hst := zC.pf hM hst (k := 0) (by decide) 1
    have hI := hI.ffree hM (k := 0) (by decide) 1
    have kn3 := zpi_s S mo 0 1
    refine lv_aload_n hx hb dX7_byteAt_34 rfl (lv_at hl 0 rfl) ?_
    refine zget (ci := 7) (C := RX7) (T := TX7) (N := 42) hx hb hts hi7 hown hK hP hM.1 rfl rfl 0 (by decide) (hts (.fieldLink RX7 117 "LinClusterModel" "thrown" "I") (by decide +kernel)) (fun _ h9 => h9) rfl dX7_byteAt_35 ?_
    refine lv_topi (fun v4 ev4 => ?_)
    obtain rfl : v4 = 1 := ev4.trans kn3
    refine lv_if_le (tgt := 43) hx hb dX7_byteAt_38 (by decide) (fun c5 => ?_) (fun c5 => ?_)
    · exact absurd c5 (by decide)
    · skip
      refine lv_iconst (v := 0) hx hb dX7_byteAt_41 (by decide) ?_
      exact W.iret (v := 0) hx hb hr (fun t ht hW => ⟨⟨0, (zpi S mo 0 1), rfl, ⟨⟨hst, hI⟩, Or.inl kn3⟩, by rw [ht]; exact hP, va_K.moved hW.alike hK, hD⟩, hS.F ht⟩) hS.2.2 dX7_byteAt_42
  · skip
    obtain ⟨⟨j8, hj8, rfl⟩, ⟨i8, hi8, rfl, hth8⟩⟩ := hr1 c2
    refine lv_iload_n hx hb dX7_byteAt_10 rfl (lv_at hl 3 rfl) ?_
    refine lv_iconst (v := 0) hx hb dX7_byteAt_11 (by decide) ?_
    refine lv_aload_n hx hb dX7_byteAt_12 rfl (lv_at hl 0 rfl) ?_
    refine zget (ci := 7) (C := RX7) (T := TX7) (N := 42) hx hb hts hi7 hown hK hP hM.1 rfl rfl 2 (by decide) (hts (.fieldLink RX7 13 "LinClusterModel" "lengths" "[I") (by decide +kernel)) (fun _ h9 => h9) (v := .ref (ad 2)) (congrArg (fun z => some (va_rf z)) (((hM.eq hst.1).2.1 2 (by decide)).1)) dX7_byteAt_13 ?_
    refine lv_iload_n hx hb dX7_byteAt_16 rfl (lv_at hl 2 rfl) ?_
    refine ziald hx hb hK hP (hM.2.1 2 (by decide)).2.1 (show G.2.2 (ad 2) = 62 from (hM.2.1 2 (by decide)).2.2) (vp_in_nI (n := i8) (N := 62) (by omega) (by omega)) dX7_byteAt_17 ?_
    refine lv_topi (fun v6 ev6 => ?_)
    rw [(nI_clamp (n := i8) (by omega))] at ev6
    obtain ⟨L8, hL8, eL8⟩ := hI.len hi8
    obtain rfl : v6 = nI L8 := ev6.trans eL8
    refine lv_iconst (v := 1) hx hb dX7_byteAt_18 (by decide) ?_
    refine lv_isub hx hb dX7_byteAt_19 ?_
    refine lv_topi (fun v7 ev7 => ?_)
    refine vp_callSi (va_Run.run (va_runS (As := [.int b, .int 0, .int v7]) (rest := [.ref mo]) ⟨hx, hb, hml, hown, hts⟩ (c_X7_isIn l b 0 v7) (va_cwS 3 hts gX7_byteAt_X7_isIn rfl rfl rfl (by decide +kernel) ⟨Nat.le_of_ble_eq_true rfl, Nat.le_of_ble_eq_true rfl⟩) zpreS0 rfl rfl hl.1 rfl (lv_room (Nat.le_of_ble_eq_true rfl)) dX7_byteAt_20 ⟨Nat.le_of_ble_eq_true rfl, Nat.le_of_ble_eq_true rfl⟩)) (fun r8 hr8 => ?_)
    refine lv_if_eq (tgt := 30) hx hb dX7_byteAt_23 (by decide) (fun c9 => ?_) (fun c9 => ?_)
    · skip
      refine lv_iconst (v := 1) hx hb dX7_byteAt_30 (by decide) ?_
      refine zputi (ci := 7) (v := 1) (ty := .int) (C := RX7) (T := TX7) (N := 42) hx hb hts hi7 tyX7 tyX7_ok nmX7 hown hK hP hD hS hM.1 rfl rfl 0 (by decide) (hts (.fieldLink RX7 117 "LinClusterModel" "thrown" "I") (by decide +kernel)) (fun _ h9 => h9) rfl (by decide +kernel) rfl rfl (Nat.le_of_ble_eq_true rfl) rfl dX7_byteAt_31 (fun H locs hP hD hS => ?_)
      have hst := zC.pf hM hst (k := 0) (by decide) 1
      have hI := hI.ffree hM (k := 0) (by decide) 1
      have kn10 := zpi_s S mo 0 1
      refine lv_aload_n hx hb dX7_byteAt_34 rfl (lv_at hl 0 rfl) ?_
      refine zget (ci := 7) (C := RX7) (T := TX7) (N := 42) hx hb hts hi7 hown hK hP hM.1 rfl rfl 0 (by decide) (hts (.fieldLink RX7 117 "LinClusterModel" "thrown" "I") (by decide +kernel)) (fun _ h9 => h9) rfl dX7_byteAt_35 ?_
      refine lv_topi (fun v11 ev11 => ?_)
      obtain rfl : v11 = 1 := ev11.trans kn10
      refine lv_if_le (tgt := 43) hx hb dX7_byteAt_38 (by decide) (fun c12 => ?_) (fun c12 => ?_)
      · exact absurd c12 (by decide)
      · skip
        refine lv_iconst (v := 0) hx hb dX7_byteAt_41 (by decide) ?_
        exact W.iret (v := 0) hx hb hr (fun t ht hW => ⟨⟨0, (zpi S mo 0 1), rfl, ⟨⟨hst, hI⟩, Or.inr ⟨i8, hi8, rfl, hth8⟩⟩, by rw [ht]; exact hP, va_K.moved hW.alike hK, hD⟩, hS.F ht⟩) hS.2.2 dX7_byteAt_42
    · skip
      obtain ⟨b8, hb8, rfl⟩ := zbyt hL8 (zii1 hr8 c9)
      refine lv_iconst (v := 0) hx hb dX7_byteAt_26 (by decide) ?_
      refine lv_goto (tgt := 31) hx hb dX7_byteAt_27 (by decide) ?_
      refine zputi (ci := 7) (v := 0) (ty := .int) (C := RX7) (T := TX7) (N := 42) hx hb hts hi7 tyX7 tyX7_ok nmX7 hown hK hP hD hS hM.1 rfl rfl 0 (by decide) (hts (.fieldLink RX7 117 "LinClusterModel" "thrown" "I") (by decide +kernel)) (fun _ h9 => h9) rfl (by decide +kernel) rfl rfl (Nat.le_of_ble_eq_true rfl) rfl dX7_byteAt_31 (fun H locs hP hD hS => ?_)
      have hst := zC.pf hM hst (k := 0) (by decide) 0
      have hI := hI.ffree hM (k := 0) (by decide) 0
      have kn13 := zpi_s S mo 0 0
      refine lv_aload_n hx hb dX7_byteAt_34 rfl (lv_at hl 0 rfl) ?_
      refine zget (ci := 7) (C := RX7) (T := TX7) (N := 42) hx hb hts hi7 hown hK hP hM.1 rfl rfl 0 (by decide) (hts (.fieldLink RX7 117 "LinClusterModel" "thrown" "I") (by decide +kernel)) (fun _ h9 => h9) rfl dX7_byteAt_35 ?_
      refine lv_topi (fun v14 ev14 => ?_)
      obtain rfl : v14 = 0 := ev14.trans kn13
      refine lv_if_le (tgt := 43) hx hb dX7_byteAt_38 (by decide) (fun c15 => ?_) (fun c15 => ?_)
      · skip
        refine lv_aload_n hx hb dX7_byteAt_43 rfl (lv_at hl 0 rfl) ?_
        refine zget (ci := 7) (C := RX7) (T := TX7) (N := 42) hx hb hts hi7 hown hK hP hM.1 rfl rfl 3 (by decide) (hts (.fieldLink RX7 17 "LinClusterModel" "publishers" "[I") (by decide +kernel)) (fun _ h9 => h9) (v := .ref (ad 3)) (congrArg (fun z => some (va_rf z)) (((hM.eq hst.1).2.1 3 (by decide)).1)) dX7_byteAt_44 ?_
        refine lv_iload_n hx hb dX7_byteAt_47 rfl (lv_at hl 2 rfl) ?_
        refine ziald hx hb hK hP (hM.2.1 3 (by decide)).2.1 (show G.2.2 (ad 3) = 62 from (hM.2.1 3 (by decide)).2.2) (vp_in_nI (n := i8) (N := 62) (by omega) (by omega)) dX7_byteAt_48 ?_
        refine lv_topi (fun v16 ev16 => ?_)
        rw [(nI_clamp (n := i8) (by omega))] at ev16
        refine lv_iload_n hx hb dX7_byteAt_49 rfl (lv_at hl 1 rfl) ?_
        refine lv_icmp_ne (tgt := 67) hx hb dX7_byteAt_50 (by decide) (fun c17 => ?_) (fun c17 => ?_)
        · skip
          refine lv_aload_n hx hb dX7_byteAt_67 rfl (lv_at hl 0 rfl) ?_
          refine zget (ci := 7) (C := RX7) (T := TX7) (N := 42) hx hb hts hi7 hown hK hP hM.1 rfl rfl 8 (by decide) (hts (.fieldLink RX7 32 "LinClusterModel" "kept" "[I") (by decide +kernel)) (fun _ h9 => h9) (v := .ref (ad 8)) (congrArg (fun z => some (va_rf z)) (((hM.eq hst.1).2.1 8 (by decide)).1)) dX7_byteAt_68 ?_
          refine lv_bipush (v := 8) hx hb dX7_byteAt_71 (by decide) ?_
          refine lv_bipush (v := 62) hx hb dX7_byteAt_73 (by decide) ?_
          refine lv_iload_n hx hb dX7_byteAt_75 rfl (lv_at hl 1 rfl) ?_
          refine lv_imul hx hb dX7_byteAt_76 ?_
          refine lv_topi (fun v18 ev18 => ?_)
          obtain rfl : v18 = nI (62 * j8) := ev18.trans (pk_mul 62 j8)
          refine lv_iload_n hx hb dX7_byteAt_77 rfl (lv_at hl 2 rfl) ?_
          refine lv_iadd hx hb dX7_byteAt_78 ?_
          refine lv_topi (fun v19 ev19 => ?_)
          obtain rfl : v19 = nI ((62 * j8) + i8) := ev19.trans (nI_add (62 * j8) i8)
          refine lv_imul hx hb dX7_byteAt_79 ?_
          refine lv_topi (fun v20 ev20 => ?_)
          obtain rfl : v20 = nI (8 * ((62 * j8) + i8)) := ev20.trans (pk_mul 8 ((62 * j8) + i8))
          refine lv_iload_n hx hb dX7_byteAt_80 rfl (lv_at hl 3 rfl) ?_
          refine lv_iadd hx hb dX7_byteAt_81 ?_
          refine lv_topi (fun v21 ev21 => ?_)
          obtain rfl : v21 = nI ((8 * ((62 * j8) + i8)) + b8) := ev21.trans (nI_add (8 * ((62 * j8) + i8)) b8)
          refine ziald hx hb hK hP (hM.2.1 8 (by decide)).2.1 (show G.2.2 (ad 8) = 3968 from (hM.2.1 8 (by decide)).2.2) (vp_in_nI (n := ((8 * ((62 * j8) + i8)) + b8)) (N := 3968) (by omega) (by omega)) dX7_byteAt_82 ?_
          refine lv_topi (fun v22 ev22 => ?_)
          rw [(nI_clamp (n := ((8 * ((62 * j8) + i8)) + b8)) (by omega))] at ev22
          exact W.iret (v := v22) hx hb hr (fun t ht hW => ⟨⟨v22, (zpi S mo 0 0), rfl, ⟨⟨hst, hI⟩, Or.inr ⟨i8, hi8, rfl, hth8⟩⟩, by rw [ht]; exact hP, va_K.moved hW.alike hK, hD⟩, hS.F ht⟩) hS.2.2 dX7_byteAt_83
        · skip
          refine lv_aload_n hx hb dX7_byteAt_53 rfl (lv_at hl 0 rfl) ?_
          refine zget (ci := 7) (C := RX7) (T := TX7) (N := 42) hx hb hts hi7 hown hK hP hM.1 rfl rfl 5 (by decide) (hts (.fieldLink RX7 23 "LinClusterModel" "bytes" "[I") (by decide +kernel)) (fun _ h9 => h9) (v := .ref (ad 5)) (congrArg (fun z => some (va_rf z)) (((hM.eq hst.1).2.1 5 (by decide)).1)) dX7_byteAt_54 ?_
          refine lv_bipush (v := 8) hx hb dX7_byteAt_57 (by decide) ?_
          refine lv_iload_n hx hb dX7_byteAt_59 rfl (lv_at hl 2 rfl) ?_
          refine lv_imul hx hb dX7_byteAt_60 ?_
          refine lv_topi (fun v23 ev23 => ?_)
          obtain rfl : v23 = nI (8 * i8) := ev23.trans (pk_mul 8 i8)
          refine lv_iload_n hx hb dX7_byteAt_61 rfl (lv_at hl 3 rfl) ?_
          refine lv_iadd hx hb dX7_byteAt_62 ?_
          refine lv_topi (fun v24 ev24 => ?_)
          obtain rfl : v24 = nI ((8 * i8) + b8) := ev24.trans (nI_add (8 * i8) b8)
          refine ziald hx hb hK hP (hM.2.1 5 (by decide)).2.1 (show G.2.2 (ad 5) = 496 from (hM.2.1 5 (by decide)).2.2) (vp_in_nI (n := ((8 * i8) + b8)) (N := 496) (by omega) (by omega)) dX7_byteAt_63 ?_
          refine lv_topi (fun v25 ev25 => ?_)
          rw [(nI_clamp (n := ((8 * i8) + b8)) (by omega))] at ev25
          refine lv_goto (tgt := 83) hx hb dX7_byteAt_64 (by decide) ?_
          exact W.iret (v := v25) hx hb hr (fun t ht hW => ⟨⟨v25, (zpi S mo 0 0), rfl, ⟨⟨hst, hI⟩, Or.inr ⟨i8, hi8, rfl, hth8⟩⟩, by rw [ht]; exact hP, va_K.moved hW.alike hK, hD⟩, hS.F ht⟩) hS.2.2 dX7_byteAt_83
      · exact absurd c15 (by decide)
set_option maxHeartbeats 4000000 in
set_option maxRecDepth 100000 in
theorem c_X7_taken (l : Launch) (dC : Nat → ClassId) (dI : Nat → Nat → Nat) (cy : Nat → ClassId) (G : zG) (S : zS) (sz : Nat) (mo : Nat) (ad : Nat → Nat) (v id : Int32) (hM : zM G S mo ad) (hI : zI mo ad S) : Met l yX7_taken wsX7_taken ({ frames := 3, cells := 0, slots := 0, locals := 65 }) (zP dC dI cy [.ref mo, .int v, .int id] G S sz) (va_Qi (fun (r : Int32) S' => (zC mo ad [] [0] S S' ∧ zI mo ad S') ∧ (S'.1 mo 0 = 1 ∨ ∃ j, j < 62 ∧ id = nI j ∧ ¬ S.1 (ad 1) j = 0)) (zB dC dI cy (zA cy G S sz) G) (zA cy G S sz)) 0 0 (zA cy G S sz) := by
  refine Met.ofW (cc := cX7_taken) (maxL := 3) (ret := (some .int)) (by decide) rfl ?_
  intro p e s m args below meth c s₁ B hml hv
  obtain ⟨rfl, hsz, hP, hK, hD0, hN⟩ := hv
  have hx := B.exec
  have hb := B.bytes
  have hr := B.returns
  have hts := atoms_spec (ws := wsX7_taken) B.pre
  have hown : s.vm.findClass RX7 = some m.cls := findClass_of_methodNamed B.named
  have hlocks := B.notSynchronized
  subst hsz
  have hD : va_D (zA cy G S s.heap.size) (zW cy G S) := hD0.self
  generalize hAe : zA cy G S s.heap.size = A at hD ⊢
  have hA : ∀ q : Nat, s.heap.size ≤ q → A q := fun q h => by rw [← hAe]; exact Or.inr h
  have hS : va_S A s.heap s.heap [] := va_S.rf
  have hst := zC.refl mo ad [] [0] S
  have hl := lv_entry ([.ref mo, .int v, .int id]) (n := 3) (Nat.le_of_ble_eq_true rfl)
  rw [lg_entry_eq]
  generalize (lg_sl ([.ref mo, .int v, .int id]) ++ List.replicate (3 - (lg_sl ([.ref mo, .int v, .int id])).length) Slot.unset).toArray = ls at hl ⊢
  have hl : lv_has ls 3 [(0, .ref mo), (1, .int v), (2, .int id)] := hl
  have hi7 : ∀ w ∈ wsX70, w ∈ wsX7_taken := by decide +kernel
  refine lv_aload_n hx hb dX7_taken_0 rfl (lv_at hl 0 rfl) ?_
  refine lv_aload_n hx hb dX7_taken_1 rfl (lv_at hl 0 rfl) ?_
  refine lv_iload_n hx hb dX7_taken_2 rfl (lv_at hl 1 rfl) ?_
  refine lv_iload_n hx hb dX7_taken_3 rfl (lv_at hl 2 rfl) ?_
  refine vp_callSi (va_Run.run (va_runV (As := [.int v, .int id]) (rest := [.ref mo]) ⟨hx, hb, hml, hown, hts⟩ (c_X7_isAsked l dC dI cy G S s.heap.size mo ad v id (hM.eq hst.1)) (cwV 2 hts gX7_taken_X7_isAsked rfl rfl rfl (by decide +kernel) ⟨Nat.le_of_ble_eq_true rfl, Nat.le_of_ble_eq_true rfl⟩) (zpreV hK hP hD hN (zrecv7 hK hP hM.1)) rfl rfl hl.1 rfl (lv_room (Nat.le_of_ble_eq_true rfl)) dX7_taken_4 ⟨Nat.le_of_ble_eq_true rfl, Nat.le_of_ble_eq_true rfl⟩)) (fun r1 hr1 => ?_)
  refine lv_if_eq (tgt := 14) hx hb dX7_taken_7 (by decide) (fun c2 => ?_) (fun c2 => ?_)
  · skip
    refine lv_iconst (v := 1) hx hb dX7_taken_14 (by decide) ?_
    refine zputi (ci := 7) (v := 1) (ty := .int) (C := RX7) (T := TX7) (N := 42) hx hb hts hi7 tyX7 tyX7_ok nmX7 hown hK hP hD hS hM.1 rfl rfl 0 (by decide) (hts (.fieldLink RX7 117 "LinClusterModel" "thrown" "I") (by decide +kernel)) (fun _ h9 => h9) rfl (by decide +kernel) rfl rfl (Nat.le_of_ble_eq_true rfl) rfl dX7_taken_15 (fun H locs hP hD hS => ?_)
    have hst := zC.pf hM hst (k := 0) (by decide) 1
    have hI := hI.ffree hM (k := 0) (by decide) 1
    have kn3 := zpi_s S mo 0 1
    refine lv_aload_n hx hb dX7_taken_18 rfl (lv_at hl 0 rfl) ?_
    refine zget (ci := 7) (C := RX7) (T := TX7) (N := 42) hx hb hts hi7 hown hK hP hM.1 rfl rfl 0 (by decide) (hts (.fieldLink RX7 117 "LinClusterModel" "thrown" "I") (by decide +kernel)) (fun _ h9 => h9) rfl dX7_taken_19 ?_
    refine lv_topi (fun v4 ev4 => ?_)
    obtain rfl : v4 = 1 := ev4.trans kn3
    refine lv_if_gt (tgt := 35) hx hb dX7_taken_22 (by decide) (fun c5 => ?_) (fun c5 => ?_)
    · skip
      refine lv_iconst (v := 0) hx hb dX7_taken_35 (by decide) ?_
      refine lv_goto (tgt := 50) hx hb dX7_taken_36 (by decide) ?_
      exact W.iret (v := 0) hx hb hr (fun t ht hW => ⟨⟨0, (zpi S mo 0 1), rfl, ⟨⟨hst, hI⟩, Or.inl kn3⟩, by rw [ht]; exact hP, va_K.moved hW.alike hK, hD⟩, hS.F ht⟩) hS.2.2 dX7_taken_50
    · exact absurd c5 (by decide)
  · skip
    obtain ⟨⟨j8, hj8, rfl⟩, ⟨i8, hi8, rfl, hth8⟩⟩ := hr1 c2
    refine lv_iconst (v := 0) hx hb dX7_taken_10 (by decide) ?_
    refine lv_goto (tgt := 15) hx hb dX7_taken_11 (by decide) ?_
    refine zputi (ci := 7) (v := 0) (ty := .int) (C := RX7) (T := TX7) (N := 42) hx hb hts hi7 tyX7 tyX7_ok nmX7 hown hK hP hD hS hM.1 rfl rfl 0 (by decide) (hts (.fieldLink RX7 117 "LinClusterModel" "thrown" "I") (by decide +kernel)) (fun _ h9 => h9) rfl (by decide +kernel) rfl rfl (Nat.le_of_ble_eq_true rfl) rfl dX7_taken_15 (fun H locs hP hD hS => ?_)
    have hst := zC.pf hM hst (k := 0) (by decide) 0
    have hI := hI.ffree hM (k := 0) (by decide) 0
    have kn6 := zpi_s S mo 0 0
    refine lv_aload_n hx hb dX7_taken_18 rfl (lv_at hl 0 rfl) ?_
    refine zget (ci := 7) (C := RX7) (T := TX7) (N := 42) hx hb hts hi7 hown hK hP hM.1 rfl rfl 0 (by decide) (hts (.fieldLink RX7 117 "LinClusterModel" "thrown" "I") (by decide +kernel)) (fun _ h9 => h9) rfl dX7_taken_19 ?_
    refine lv_topi (fun v7 ev7 => ?_)
    obtain rfl : v7 = 0 := ev7.trans kn6
    refine lv_if_gt (tgt := 35) hx hb dX7_taken_22 (by decide) (fun c8 => ?_) (fun c8 => ?_)
    · exact absurd c8 (by decide)
    · skip
      refine lv_aload_n hx hb dX7_taken_25 rfl (lv_at hl 0 rfl) ?_
      refine zget (ci := 7) (C := RX7) (T := TX7) (N := 42) hx hb hts hi7 hown hK hP hM.1 rfl rfl 3 (by decide) (hts (.fieldLink RX7 17 "LinClusterModel" "publishers" "[I") (by decide +kernel)) (fun _ h9 => h9) (v := .ref (ad 3)) (congrArg (fun z => some (va_rf z)) (((hM.eq hst.1).2.1 3 (by decide)).1)) dX7_taken_26 ?_
      refine lv_iload_n hx hb dX7_taken_29 rfl (lv_at hl 2 rfl) ?_
      refine ziald hx hb hK hP (hM.2.1 3 (by decide)).2.1 (show G.2.2 (ad 3) = 62 from (hM.2.1 3 (by decide)).2.2) (vp_in_nI (n := i8) (N := 62) (by omega) (by omega)) dX7_taken_30 ?_
      refine lv_topi (fun v9 ev9 => ?_)
      rw [(nI_clamp (n := i8) (by omega))] at ev9
      refine lv_iload_n hx hb dX7_taken_31 rfl (lv_at hl 1 rfl) ?_
      refine lv_icmp_ne (tgt := 39) hx hb dX7_taken_32 (by decide) (fun c10 => ?_) (fun c10 => ?_)
      · skip
        refine lv_aload_n hx hb dX7_taken_39 rfl (lv_at hl 0 rfl) ?_
        refine zget (ci := 7) (C := RX7) (T := TX7) (N := 42) hx hb hts hi7 hown hK hP hM.1 rfl rfl 7 (by decide) (hts (.fieldLink RX7 29 "LinClusterModel" "takings" "[I") (by decide +kernel)) (fun _ h9 => h9) (v := .ref (ad 7)) (congrArg (fun z => some (va_rf z)) (((hM.eq hst.1).2.1 7 (by decide)).1)) dX7_taken_40 ?_
        refine lv_bipush (v := 62) hx hb dX7_taken_43 (by decide) ?_
        refine lv_iload_n hx hb dX7_taken_45 rfl (lv_at hl 1 rfl) ?_
        refine lv_imul hx hb dX7_taken_46 ?_
        refine lv_topi (fun v11 ev11 => ?_)
        obtain rfl : v11 = nI (62 * j8) := ev11.trans (pk_mul 62 j8)
        refine lv_iload_n hx hb dX7_taken_47 rfl (lv_at hl 2 rfl) ?_
        refine lv_iadd hx hb dX7_taken_48 ?_
        refine lv_topi (fun v12 ev12 => ?_)
        obtain rfl : v12 = nI ((62 * j8) + i8) := ev12.trans (nI_add (62 * j8) i8)
        refine ziald hx hb hK hP (hM.2.1 7 (by decide)).2.1 (show G.2.2 (ad 7) = 496 from (hM.2.1 7 (by decide)).2.2) (vp_in_nI (n := ((62 * j8) + i8)) (N := 496) (by omega) (by omega)) dX7_taken_49 ?_
        refine lv_topi (fun v13 ev13 => ?_)
        rw [(nI_clamp (n := ((62 * j8) + i8)) (by omega))] at ev13
        exact W.iret (v := v13) hx hb hr (fun t ht hW => ⟨⟨v13, (zpi S mo 0 0), rfl, ⟨⟨hst, hI⟩, Or.inr ⟨i8, hi8, rfl, hth8⟩⟩, by rw [ht]; exact hP, va_K.moved hW.alike hK, hD⟩, hS.F ht⟩) hS.2.2 dX7_taken_50
      · skip
        refine lv_iconst (v := 0) hx hb dX7_taken_35 (by decide) ?_
        refine lv_goto (tgt := 50) hx hb dX7_taken_36 (by decide) ?_
        exact W.iret (v := 0) hx hb hr (fun t ht hW => ⟨⟨0, (zpi S mo 0 0), rfl, ⟨⟨hst, hI⟩, Or.inr ⟨i8, hi8, rfl, hth8⟩⟩, by rw [ht]; exact hP, va_K.moved hW.alike hK, hD⟩, hS.F ht⟩) hS.2.2 dX7_taken_50
def zmtell (S : zS) (ad : Nat → Nat) (j : Nat) (k : Int32) : Int32 := if k = 0 then (if S.1 (ad 16) j = 0 then 0 else 1) else if k = 1 then (if S.1 (ad 17) j = 0 then 0 else 1) else if k = 2 then S.1 (ad 18) j else if k = 3 then S.1 (ad 19) j else if k = 4 then S.1 (ad 20) j else if k = 5 then S.1 (ad 21) j else S.1 (ad 16) j
set_option maxHeartbeats 4000000 in
set_option maxRecDepth 100000 in
theorem c_X7_told (l : Launch) (dC : Nat → ClassId) (dI : Nat → Nat → Nat) (cy : Nat → ClassId) (G : zG) (S : zS) (sz : Nat) (mo : Nat) (ad : Nat → Nat) (v k : Int32) (hM : zM G S mo ad) (hI : zI mo ad S) : Met l yX7_told wsX7_told ({ frames := 2, cells := 0, slots := 0, locals := 42 }) (zP dC dI cy [.ref mo, .int v, .int k] G S sz) (va_Qi (fun (r : Int32) S' => (zC mo ad [] [0] S S' ∧ zI mo ad S') ∧ S'.1 mo 0 = kTold v k ∧ (S'.1 mo 0 = 0 → ∃ j, j < 8 ∧ v = nI j ∧ r = zmtell S ad j k)) (zB dC dI cy (zA cy G S sz) G) (zA cy G S sz)) 0 0 (zA cy G S sz) := by
  refine Met.ofW (cc := cX7_told) (maxL := 3) (ret := (some .int)) (by decide) rfl ?_
  intro p e s m args below meth c s₁ B hml hv
  obtain ⟨rfl, hsz, hP, hK, hD0, hN⟩ := hv
  have hx := B.exec
  have hb := B.bytes
  have hr := B.returns
  have hts := atoms_spec (ws := wsX7_told) B.pre
  have hown : s.vm.findClass RX7 = some m.cls := findClass_of_methodNamed B.named
  have hlocks := B.notSynchronized
  subst hsz
  have hD : va_D (zA cy G S s.heap.size) (zW cy G S) := hD0.self
  generalize hAe : zA cy G S s.heap.size = A at hD ⊢
  have hA : ∀ q : Nat, s.heap.size ≤ q → A q := fun q h => by rw [← hAe]; exact Or.inr h
  have hS : va_S A s.heap s.heap [] := va_S.rf
  have hst := zC.refl mo ad [] [0] S
  have hl := lv_entry ([.ref mo, .int v, .int k]) (n := 3) (Nat.le_of_ble_eq_true rfl)
  rw [lg_entry_eq]
  generalize (lg_sl ([.ref mo, .int v, .int k]) ++ List.replicate (3 - (lg_sl ([.ref mo, .int v, .int k])).length) Slot.unset).toArray = ls at hl ⊢
  have hl : lv_has ls 3 [(0, .ref mo), (1, .int v), (2, .int k)] := hl
  have hi7 : ∀ w ∈ wsX70, w ∈ wsX7_told := by decide +kernel
  refine lv_aload_n hx hb dX7_told_0 rfl (lv_at hl 0 rfl) ?_
  refine lv_iload_n hx hb dX7_told_1 rfl (lv_at hl 1 rfl) ?_
  refine vp_callSi (va_Run.run (va_runS (As := [.int v]) (rest := [.ref mo]) ⟨hx, hb, hml, hown, hts⟩ (c_X7_isNode l v) (va_cwS 1 hts gX7_told_X7_isNode rfl rfl rfl (by decide +kernel) ⟨Nat.le_of_ble_eq_true rfl, Nat.le_of_ble_eq_true rfl⟩) zpreS0 rfl rfl hl.1 rfl (lv_room (Nat.le_of_ble_eq_true rfl)) dX7_told_2 ⟨Nat.le_of_ble_eq_true rfl, Nat.le_of_ble_eq_true rfl⟩)) (fun r1 hr1 => ?_)
  refine lv_if_eq (tgt := 22) hx hb dX7_told_5 (by decide) (fun c2 => ?_) (fun c2 => ?_)
  · skip
    refine lv_iconst (v := 1) hx hb dX7_told_22 (by decide) ?_
    refine zputi (ci := 7) (v := 1) (ty := .int) (C := RX7) (T := TX7) (N := 42) hx hb hts hi7 tyX7 tyX7_ok nmX7 hown hK hP hD hS hM.1 rfl rfl 0 (by decide) (hts (.fieldLink RX7 117 "LinClusterModel" "thrown" "I") (by decide +kernel)) (fun _ h9 => h9) rfl (by decide +kernel) rfl rfl (Nat.le_of_ble_eq_true rfl) rfl dX7_told_23 (fun H locs hP hD hS => ?_)
    have hst := zC.pf hM hst (k := 0) (by decide) 1
    have hI := hI.ffree hM (k := 0) (by decide) 1
    have kn3 := zpi_s S mo 0 1
    refine lv_aload_n hx hb dX7_told_26 rfl (lv_at hl 0 rfl) ?_
    refine zget (ci := 7) (C := RX7) (T := TX7) (N := 42) hx hb hts hi7 hown hK hP hM.1 rfl rfl 0 (by decide) (hts (.fieldLink RX7 117 "LinClusterModel" "thrown" "I") (by decide +kernel)) (fun _ h9 => h9) rfl dX7_told_27 ?_
    refine lv_topi (fun v4 ev4 => ?_)
    obtain rfl : v4 = 1 := ev4.trans kn3
    refine lv_if_le (tgt := 35) hx hb dX7_told_30 (by decide) (fun c5 => ?_) (fun c5 => ?_)
    · exact absurd c5 (by decide)
    · skip
      refine lv_iconst (v := 0) hx hb dX7_told_33 (by decide) ?_
      exact W.iret (v := 0) hx hb hr (fun t ht hW => ⟨⟨0, (zpi S mo 0 1), rfl, ⟨⟨hst, hI⟩, ⟨by rw [kn3]; exact (if_pos (Or.inl (zin7b hr1 c2))).symm, fun z9 => absurd (kn3.symm.trans z9) (by decide)⟩⟩, by rw [ht]; exact hP, va_K.moved hW.alike hK, hD⟩, hS.F ht⟩) hS.2.2 dX7_told_34
  · skip
    obtain ⟨j8, hj8, rfl⟩ := zin7n hr1 c2
    refine lv_iload_n hx hb dX7_told_8 rfl (lv_at hl 2 rfl) ?_
    refine lv_iconst (v := 0) hx hb dX7_told_9 (by decide) ?_
    refine lv_bipush (v := 6) hx hb dX7_told_10 (by decide) ?_
    refine vp_callSi (va_Run.run (va_runS (As := [.int k, .int 0, .int 6]) (rest := [.ref mo]) ⟨hx, hb, hml, hown, hts⟩ (c_X7_isIn l k 0 6) (va_cwS 3 hts gX7_told_X7_isIn rfl rfl rfl (by decide +kernel) ⟨Nat.le_of_ble_eq_true rfl, Nat.le_of_ble_eq_true rfl⟩) zpreS0 rfl rfl hl.1 rfl (lv_room (Nat.le_of_ble_eq_true rfl)) dX7_told_12 ⟨Nat.le_of_ble_eq_true rfl, Nat.le_of_ble_eq_true rfl⟩)) (fun r6 hr6 => ?_)
    refine lv_if_eq (tgt := 22) hx hb dX7_told_15 (by decide) (fun c7 => ?_) (fun c7 => ?_)
    · skip
      refine lv_iconst (v := 1) hx hb dX7_told_22 (by decide) ?_
      refine zputi (ci := 7) (v := 1) (ty := .int) (C := RX7) (T := TX7) (N := 42) hx hb hts hi7 tyX7 tyX7_ok nmX7 hown hK hP hD hS hM.1 rfl rfl 0 (by decide) (hts (.fieldLink RX7 117 "LinClusterModel" "thrown" "I") (by decide +kernel)) (fun _ h9 => h9) rfl (by decide +kernel) rfl rfl (Nat.le_of_ble_eq_true rfl) rfl dX7_told_23 (fun H locs hP hD hS => ?_)
      have hst := zC.pf hM hst (k := 0) (by decide) 1
      have hI := hI.ffree hM (k := 0) (by decide) 1
      have kn8 := zpi_s S mo 0 1
      refine lv_aload_n hx hb dX7_told_26 rfl (lv_at hl 0 rfl) ?_
      refine zget (ci := 7) (C := RX7) (T := TX7) (N := 42) hx hb hts hi7 hown hK hP hM.1 rfl rfl 0 (by decide) (hts (.fieldLink RX7 117 "LinClusterModel" "thrown" "I") (by decide +kernel)) (fun _ h9 => h9) rfl dX7_told_27 ?_
      refine lv_topi (fun v9 ev9 => ?_)
      obtain rfl : v9 = 1 := ev9.trans kn8
      refine lv_if_le (tgt := 35) hx hb dX7_told_30 (by decide) (fun c10 => ?_) (fun c10 => ?_)
      · exact absurd c10 (by decide)
      · skip
        refine lv_iconst (v := 0) hx hb dX7_told_33 (by decide) ?_
        exact W.iret (v := 0) hx hb hr (fun t ht hW => ⟨⟨0, (zpi S mo 0 1), rfl, ⟨⟨hst, hI⟩, ⟨by rw [kn8]; exact (if_pos (Or.inr ((zii0 hr6 c7).imp (fun q => q) Int32.not_le.mpr))).symm, fun z9 => absurd (kn8.symm.trans z9) (by decide)⟩⟩, by rw [ht]; exact hP, va_K.moved hW.alike hK, hD⟩, hS.F ht⟩) hS.2.2 dX7_told_34
    · skip
      refine lv_iconst (v := 0) hx hb dX7_told_18 (by decide) ?_
      refine lv_goto (tgt := 23) hx hb dX7_told_19 (by decide) ?_
      refine zputi (ci := 7) (v := 0) (ty := .int) (C := RX7) (T := TX7) (N := 42) hx hb hts hi7 tyX7 tyX7_ok nmX7 hown hK hP hD hS hM.1 rfl rfl 0 (by decide) (hts (.fieldLink RX7 117 "LinClusterModel" "thrown" "I") (by decide +kernel)) (fun _ h9 => h9) rfl (by decide +kernel) rfl rfl (Nat.le_of_ble_eq_true rfl) rfl dX7_told_23 (fun H locs hP hD hS => ?_)
      have hst := zC.pf hM hst (k := 0) (by decide) 0
      have hI := hI.ffree hM (k := 0) (by decide) 0
      have kn11 := zpi_s S mo 0 0
      refine lv_aload_n hx hb dX7_told_26 rfl (lv_at hl 0 rfl) ?_
      refine zget (ci := 7) (C := RX7) (T := TX7) (N := 42) hx hb hts hi7 hown hK hP hM.1 rfl rfl 0 (by decide) (hts (.fieldLink RX7 117 "LinClusterModel" "thrown" "I") (by decide +kernel)) (fun _ h9 => h9) rfl dX7_told_27 ?_
      refine lv_topi (fun v12 ev12 => ?_)
      obtain rfl : v12 = 0 := ev12.trans kn11
      refine lv_if_le (tgt := 35) hx hb dX7_told_30 (by decide) (fun c13 => ?_) (fun c13 => ?_)
      · skip
        refine lv_iload_n hx hb dX7_told_35 rfl (lv_at hl 2 rfl) ?_
        by_cases c14 : k = 0
        · refine lv_tableIn (tgt := 76) hx hb dX7_told_36 (by rw [c14]; decide) (by rw [c14]; decide) (by rw [c14]; rfl) (by decide) ?_
          refine lv_aload_n hx hb dX7_told_76 rfl (lv_at hl 0 rfl) ?_
          refine zget (ci := 7) (C := RX7) (T := TX7) (N := 42) hx hb hts hi7 hown hK hP hM.1 rfl rfl 16 (by decide) (hts (.fieldLink RX7 53 "LinClusterModel" "at" "[I") (by decide +kernel)) (fun _ h9 => h9) (v := .ref (ad 16)) (congrArg (fun z => some (va_rf z)) (((hM.eq hst.1).2.1 16 (by decide)).1)) dX7_told_77 ?_
          refine lv_iload_n hx hb dX7_told_80 rfl (lv_at hl 1 rfl) ?_
          refine ziald hx hb hK hP (hM.2.1 16 (by decide)).2.1 (show G.2.2 (ad 16) = 8 from (hM.2.1 16 (by decide)).2.2) (vp_in_nI (n := j8) (N := 8) (by omega) (by omega)) dX7_told_81 ?_
          refine lv_topi (fun v15 ev15 => ?_)
          rw [(nI_clamp (n := j8) (by omega))] at ev15
          refine lv_if_ne (tgt := 89) hx hb dX7_told_82 (by decide) (fun c16 => ?_) (fun c16 => ?_)
          · skip
            refine lv_iconst (v := 1) hx hb dX7_told_89 (by decide) ?_
            exact W.iret (v := 1) hx hb hr (fun t ht hW => ⟨⟨1, (zpi S mo 0 0), rfl, ⟨⟨hst, hI⟩, ⟨by rw [kn11]; exact (if_neg (fun z9 => z9.elim (zn8 hj8) (fun z8 => z8.elim (zii1 hr6 c7).1 (fun z7 => z7 (Int32.not_lt.mp (zii1 hr6 c7).2))))).symm, fun _ => ⟨j8, hj8, rfl, by unfold zmtell; rw [if_pos c14]; exact (if_neg (fun z9 => c16 ((ev15.trans (congrFun (zpi_off S (hM.mo (i := 16) (by decide)) 0 0) j8)).trans z9))).symm⟩⟩⟩, by rw [ht]; exact hP, va_K.moved hW.alike hK, hD⟩, hS.F ht⟩) hS.2.2 dX7_told_90
          · skip
            have kn17 := ev15.symm.trans c16
            refine lv_iconst (v := 0) hx hb dX7_told_85 (by decide) ?_
            refine lv_goto (tgt := 90) hx hb dX7_told_86 (by decide) ?_
            exact W.iret (v := 0) hx hb hr (fun t ht hW => ⟨⟨0, (zpi S mo 0 0), rfl, ⟨⟨hst, hI⟩, ⟨by rw [kn11]; exact (if_neg (fun z9 => z9.elim (zn8 hj8) (fun z8 => z8.elim (zii1 hr6 c7).1 (fun z7 => z7 (Int32.not_lt.mp (zii1 hr6 c7).2))))).symm, fun _ => ⟨j8, hj8, rfl, by unfold zmtell; rw [if_pos c14]; exact (if_pos ((ev15.trans (congrFun (zpi_off S (hM.mo (i := 16) (by decide)) 0 0) j8)).symm.trans c16)).symm⟩⟩⟩, by rw [ht]; exact hP, va_K.moved hW.alike hK, hD⟩, hS.F ht⟩) hS.2.2 dX7_told_90
        by_cases c18 : k = 1
        · refine lv_tableIn (tgt := 91) hx hb dX7_told_36 (by rw [c18]; decide) (by rw [c18]; decide) (by rw [c18]; rfl) (by decide) ?_
          refine lv_aload_n hx hb dX7_told_91 rfl (lv_at hl 0 rfl) ?_
          refine zget (ci := 7) (C := RX7) (T := TX7) (N := 42) hx hb hts hi7 hown hK hP hM.1 rfl rfl 17 (by decide) (hts (.fieldLink RX7 56 "LinClusterModel" "errors" "[Z") (by decide +kernel)) (fun _ h9 => h9) (v := .ref (ad 17)) (congrArg (fun z => some (va_rf z)) (((hM.eq hst.1).2.1 17 (by decide)).1)) dX7_told_92 ?_
          refine lv_iload_n hx hb dX7_told_95 rfl (lv_at hl 1 rfl) ?_
          refine zzald hx hb hK hP (hM.2.1 17 (by decide)).2.1 (show G.2.2 (ad 17) = 8 from (hM.2.1 17 (by decide)).2.2) (vp_in_nI (n := j8) (N := 8) (by omega) (by omega)) dX7_told_96 ?_
          refine lv_topi (fun v19 ev19 => ?_)
          rw [(nI_clamp (n := j8) (by omega))] at ev19
          refine lv_if_eq (tgt := 104) hx hb dX7_told_97 (by decide) (fun c20 => ?_) (fun c20 => ?_)
          · skip
            have kn21 := ev19.symm.trans c20
            refine lv_iconst (v := 0) hx hb dX7_told_104 (by decide) ?_
            exact W.iret (v := 0) hx hb hr (fun t ht hW => ⟨⟨0, (zpi S mo 0 0), rfl, ⟨⟨hst, hI⟩, ⟨by rw [kn11]; exact (if_neg (fun z9 => z9.elim (zn8 hj8) (fun z8 => z8.elim (zii1 hr6 c7).1 (fun z7 => z7 (Int32.not_lt.mp (zii1 hr6 c7).2))))).symm, fun _ => ⟨j8, hj8, rfl, by unfold zmtell; rw [if_neg c14, if_pos c18]; exact (if_pos ((ev19.trans (congrFun (zpi_off S (hM.mo (i := 17) (by decide)) 0 0) j8)).symm.trans c20)).symm⟩⟩⟩, by rw [ht]; exact hP, va_K.moved hW.alike hK, hD⟩, hS.F ht⟩) hS.2.2 dX7_told_105
          · skip
            refine lv_iconst (v := 1) hx hb dX7_told_100 (by decide) ?_
            refine lv_goto (tgt := 105) hx hb dX7_told_101 (by decide) ?_
            exact W.iret (v := 1) hx hb hr (fun t ht hW => ⟨⟨1, (zpi S mo 0 0), rfl, ⟨⟨hst, hI⟩, ⟨by rw [kn11]; exact (if_neg (fun z9 => z9.elim (zn8 hj8) (fun z8 => z8.elim (zii1 hr6 c7).1 (fun z7 => z7 (Int32.not_lt.mp (zii1 hr6 c7).2))))).symm, fun _ => ⟨j8, hj8, rfl, by unfold zmtell; rw [if_neg c14, if_pos c18]; exact (if_neg (fun z9 => c20 ((ev19.trans (congrFun (zpi_off S (hM.mo (i := 17) (by decide)) 0 0) j8)).trans z9))).symm⟩⟩⟩, by rw [ht]; exact hP, va_K.moved hW.alike hK, hD⟩, hS.F ht⟩) hS.2.2 dX7_told_105
        by_cases c22 : k = 2
        · refine lv_tableIn (tgt := 106) hx hb dX7_told_36 (by rw [c22]; decide) (by rw [c22]; decide) (by rw [c22]; rfl) (by decide) ?_
          refine lv_aload_n hx hb dX7_told_106 rfl (lv_at hl 0 rfl) ?_
          refine zget (ci := 7) (C := RX7) (T := TX7) (N := 42) hx hb hts hi7 hown hK hP hM.1 rfl rfl 18 (by decide) (hts (.fieldLink RX7 59 "LinClusterModel" "lost" "[I") (by decide +kernel)) (fun _ h9 => h9) (v := .ref (ad 18)) (congrArg (fun z => some (va_rf z)) (((hM.eq hst.1).2.1 18 (by decide)).1)) dX7_told_107 ?_
          refine lv_iload_n hx hb dX7_told_110 rfl (lv_at hl 1 rfl) ?_
          refine ziald hx hb hK hP (hM.2.1 18 (by decide)).2.1 (show G.2.2 (ad 18) = 8 from (hM.2.1 18 (by decide)).2.2) (vp_in_nI (n := j8) (N := 8) (by omega) (by omega)) dX7_told_111 ?_
          refine lv_topi (fun v23 ev23 => ?_)
          rw [(nI_clamp (n := j8) (by omega))] at ev23
          exact W.iret (v := v23) hx hb hr (fun t ht hW => ⟨⟨v23, (zpi S mo 0 0), rfl, ⟨⟨hst, hI⟩, ⟨by rw [kn11]; exact (if_neg (fun z9 => z9.elim (zn8 hj8) (fun z8 => z8.elim (zii1 hr6 c7).1 (fun z7 => z7 (Int32.not_lt.mp (zii1 hr6 c7).2))))).symm, fun _ => ⟨j8, hj8, rfl, by unfold zmtell; rw [if_neg c14, if_neg c18, if_pos c22]; exact ev23.trans (congrFun (zpi_off S (hM.mo (i := 18) (by decide)) 0 0) j8)⟩⟩⟩, by rw [ht]; exact hP, va_K.moved hW.alike hK, hD⟩, hS.F ht⟩) hS.2.2 dX7_told_112
        by_cases c24 : k = 3
        · refine lv_tableIn (tgt := 113) hx hb dX7_told_36 (by rw [c24]; decide) (by rw [c24]; decide) (by rw [c24]; rfl) (by decide) ?_
          refine lv_aload_n hx hb dX7_told_113 rfl (lv_at hl 0 rfl) ?_
          refine zget (ci := 7) (C := RX7) (T := TX7) (N := 42) hx hb hts hi7 hown hK hP hM.1 rfl rfl 19 (by decide) (hts (.fieldLink RX7 62 "LinClusterModel" "said" "[I") (by decide +kernel)) (fun _ h9 => h9) (v := .ref (ad 19)) (congrArg (fun z => some (va_rf z)) (((hM.eq hst.1).2.1 19 (by decide)).1)) dX7_told_114 ?_
          refine lv_iload_n hx hb dX7_told_117 rfl (lv_at hl 1 rfl) ?_
          refine ziald hx hb hK hP (hM.2.1 19 (by decide)).2.1 (show G.2.2 (ad 19) = 8 from (hM.2.1 19 (by decide)).2.2) (vp_in_nI (n := j8) (N := 8) (by omega) (by omega)) dX7_told_118 ?_
          refine lv_topi (fun v25 ev25 => ?_)
          rw [(nI_clamp (n := j8) (by omega))] at ev25
          exact W.iret (v := v25) hx hb hr (fun t ht hW => ⟨⟨v25, (zpi S mo 0 0), rfl, ⟨⟨hst, hI⟩, ⟨by rw [kn11]; exact (if_neg (fun z9 => z9.elim (zn8 hj8) (fun z8 => z8.elim (zii1 hr6 c7).1 (fun z7 => z7 (Int32.not_lt.mp (zii1 hr6 c7).2))))).symm, fun _ => ⟨j8, hj8, rfl, by unfold zmtell; rw [if_neg c14, if_neg c18, if_neg c22, if_pos c24]; exact ev25.trans (congrFun (zpi_off S (hM.mo (i := 19) (by decide)) 0 0) j8)⟩⟩⟩, by rw [ht]; exact hP, va_K.moved hW.alike hK, hD⟩, hS.F ht⟩) hS.2.2 dX7_told_119
        by_cases c26 : k = 4
        · refine lv_tableIn (tgt := 120) hx hb dX7_told_36 (by rw [c26]; decide) (by rw [c26]; decide) (by rw [c26]; rfl) (by decide) ?_
          refine lv_aload_n hx hb dX7_told_120 rfl (lv_at hl 0 rfl) ?_
          refine zget (ci := 7) (C := RX7) (T := TX7) (N := 42) hx hb hts hi7 hown hK hP hM.1 rfl rfl 20 (by decide) (hts (.fieldLink RX7 65 "LinClusterModel" "taken" "[I") (by decide +kernel)) (fun _ h9 => h9) (v := .ref (ad 20)) (congrArg (fun z => some (va_rf z)) (((hM.eq hst.1).2.1 20 (by decide)).1)) dX7_told_121 ?_
          refine lv_iload_n hx hb dX7_told_124 rfl (lv_at hl 1 rfl) ?_
          refine ziald hx hb hK hP (hM.2.1 20 (by decide)).2.1 (show G.2.2 (ad 20) = 8 from (hM.2.1 20 (by decide)).2.2) (vp_in_nI (n := j8) (N := 8) (by omega) (by omega)) dX7_told_125 ?_
          refine lv_topi (fun v27 ev27 => ?_)
          rw [(nI_clamp (n := j8) (by omega))] at ev27
          exact W.iret (v := v27) hx hb hr (fun t ht hW => ⟨⟨v27, (zpi S mo 0 0), rfl, ⟨⟨hst, hI⟩, ⟨by rw [kn11]; exact (if_neg (fun z9 => z9.elim (zn8 hj8) (fun z8 => z8.elim (zii1 hr6 c7).1 (fun z7 => z7 (Int32.not_lt.mp (zii1 hr6 c7).2))))).symm, fun _ => ⟨j8, hj8, rfl, by unfold zmtell; rw [if_neg c14, if_neg c18, if_neg c22, if_neg c24, if_pos c26]; exact ev27.trans (congrFun (zpi_off S (hM.mo (i := 20) (by decide)) 0 0) j8)⟩⟩⟩, by rw [ht]; exact hP, va_K.moved hW.alike hK, hD⟩, hS.F ht⟩) hS.2.2 dX7_told_126
        by_cases c28 : k = 5
        · refine lv_tableIn (tgt := 127) hx hb dX7_told_36 (by rw [c28]; decide) (by rw [c28]; decide) (by rw [c28]; rfl) (by decide) ?_
          refine lv_aload_n hx hb dX7_told_127 rfl (lv_at hl 0 rfl) ?_
          refine zget (ci := 7) (C := RX7) (T := TX7) (N := 42) hx hb hts hi7 hown hK hP hM.1 rfl rfl 21 (by decide) (hts (.fieldLink RX7 68 "LinClusterModel" "errorCounts" "[I") (by decide +kernel)) (fun _ h9 => h9) (v := .ref (ad 21)) (congrArg (fun z => some (va_rf z)) (((hM.eq hst.1).2.1 21 (by decide)).1)) dX7_told_128 ?_
          refine lv_iload_n hx hb dX7_told_131 rfl (lv_at hl 1 rfl) ?_
          refine ziald hx hb hK hP (hM.2.1 21 (by decide)).2.1 (show G.2.2 (ad 21) = 8 from (hM.2.1 21 (by decide)).2.2) (vp_in_nI (n := j8) (N := 8) (by omega) (by omega)) dX7_told_132 ?_
          refine lv_topi (fun v29 ev29 => ?_)
          rw [(nI_clamp (n := j8) (by omega))] at ev29
          exact W.iret (v := v29) hx hb hr (fun t ht hW => ⟨⟨v29, (zpi S mo 0 0), rfl, ⟨⟨hst, hI⟩, ⟨by rw [kn11]; exact (if_neg (fun z9 => z9.elim (zn8 hj8) (fun z8 => z8.elim (zii1 hr6 c7).1 (fun z7 => z7 (Int32.not_lt.mp (zii1 hr6 c7).2))))).symm, fun _ => ⟨j8, hj8, rfl, by unfold zmtell; rw [if_neg c14, if_neg c18, if_neg c22, if_neg c24, if_neg c26, if_pos c28]; exact ev29.trans (congrFun (zpi_off S (hM.mo (i := 21) (by decide)) 0 0) j8)⟩⟩⟩, by rw [ht]; exact hP, va_K.moved hW.alike hK, hD⟩, hS.F ht⟩) hS.2.2 dX7_told_133
        refine lv_tableOut (tgt := 134) hx hb dX7_told_36 (zswo (k := 5) (fun k hk => by match k, hk with | 0, _ => exact c14 | 1, _ => exact c18 | 2, _ => exact c22 | 3, _ => exact c24 | 4, _ => exact c26 | 5, _ => exact c28 | k + 6, hk => exact absurd hk (by omega))) (by decide) ?_
        refine lv_aload_n hx hb dX7_told_134 rfl (lv_at hl 0 rfl) ?_
        refine zget (ci := 7) (C := RX7) (T := TX7) (N := 42) hx hb hts hi7 hown hK hP hM.1 rfl rfl 16 (by decide) (hts (.fieldLink RX7 53 "LinClusterModel" "at" "[I") (by decide +kernel)) (fun _ h9 => h9) (v := .ref (ad 16)) (congrArg (fun z => some (va_rf z)) (((hM.eq hst.1).2.1 16 (by decide)).1)) dX7_told_135 ?_
        refine lv_iload_n hx hb dX7_told_138 rfl (lv_at hl 1 rfl) ?_
        refine ziald hx hb hK hP (hM.2.1 16 (by decide)).2.1 (show G.2.2 (ad 16) = 8 from (hM.2.1 16 (by decide)).2.2) (vp_in_nI (n := j8) (N := 8) (by omega) (by omega)) dX7_told_139 ?_
        refine lv_topi (fun v30 ev30 => ?_)
        rw [(nI_clamp (n := j8) (by omega))] at ev30
        exact W.iret (v := v30) hx hb hr (fun t ht hW => ⟨⟨v30, (zpi S mo 0 0), rfl, ⟨⟨hst, hI⟩, ⟨by rw [kn11]; exact (if_neg (fun z9 => z9.elim (zn8 hj8) (fun z8 => z8.elim (zii1 hr6 c7).1 (fun z7 => z7 (Int32.not_lt.mp (zii1 hr6 c7).2))))).symm, fun _ => ⟨j8, hj8, rfl, by unfold zmtell; rw [if_neg c14, if_neg c18, if_neg c22, if_neg c24, if_neg c26, if_neg c28]; exact ev30.trans (congrFun (zpi_off S (hM.mo (i := 16) (by decide)) 0 0) j8)⟩⟩⟩, by rw [ht]; exact hP, va_K.moved hW.alike hK, hD⟩, hS.F ht⟩) hS.2.2 dX7_told_140
      · exact absurd c13 (by decide)
def zmcount (S : zS) (mo : Nat) (k : Int32) : Int32 := if k = 0 then S.1 mo 33 else if k = 1 then S.1 mo 34 else if k = 2 then S.1 mo 36 else S.1 mo 41
theorem kCount_in {k : Int32} (h : ¬ k < 0 ∧ ¬ 3 < k) : kCount k = 0 := by
  unfold kCount
  by_cases c0 : k = 0
  · rw [if_pos c0]
  by_cases c1 : k = 1
  · rw [if_neg c0, if_pos c1]
  by_cases c2 : k = 2
  · rw [if_neg c0, if_neg c1, if_pos c2]
  rw [if_neg c0, if_neg c1, if_neg c2, if_pos]
  obtain ⟨j, hj, e⟩ := nI_of2 (M := 3) (n := 3) (x := k) (by decide) h.1 (Int32.not_lt.mp h.2)
  subst e
  match j, hj with
  | 0, _ => exact absurd rfl c0
  | 1, _ => exact absurd rfl c1
  | 2, _ => exact absurd rfl c2
  | 3, _ => rfl
theorem kCount_out {k : Int32} (h : k < 0 ∨ 3 < k) : kCount k = 1 := by
  have n : ∀ {q : Int32}, (¬ q < 0 ∧ ¬ 3 < q) → ¬ k = q := fun hq e => h.elim (fun z => hq.1 (e ▸ z)) (fun z => hq.2 (e ▸ z))
  unfold kCount
  rw [if_neg (n (by decide)), if_neg (n (by decide)), if_neg (n (by decide)), if_neg (n (by decide))]
set_option maxHeartbeats 4000000 in
set_option maxRecDepth 100000 in
theorem c_X7_count (l : Launch) (dC : Nat → ClassId) (dI : Nat → Nat → Nat) (cy : Nat → ClassId) (G : zG) (S : zS) (sz : Nat) (mo : Nat) (ad : Nat → Nat) (k : Int32) (hM : zM G S mo ad) (hI : zI mo ad S) : Met l yX7_count wsX7_count ({ frames := 1, cells := 0, slots := 0, locals := 22 }) (zP dC dI cy [.ref mo, .int k] G S sz) (va_Qi (fun (r : Int32) S' => (zC mo ad [] [0] S S' ∧ zI mo ad S') ∧ S'.1 mo 0 = kCount k ∧ (S'.1 mo 0 = 0 → r = zmcount S mo k)) (zB dC dI cy (zA cy G S sz) G) (zA cy G S sz)) 0 0 (zA cy G S sz) := by
  refine Met.ofW (cc := cX7_count) (maxL := 2) (ret := (some .int)) (by decide) rfl ?_
  intro p e s m args below meth c s₁ B hml hv
  obtain ⟨rfl, hsz, hP, hK, hD0, hN⟩ := hv
  have hx := B.exec
  have hb := B.bytes
  have hr := B.returns
  have hts := atoms_spec (ws := wsX7_count) B.pre
  have hown : s.vm.findClass RX7 = some m.cls := findClass_of_methodNamed B.named
  have hlocks := B.notSynchronized
  subst hsz
  have hD : va_D (zA cy G S s.heap.size) (zW cy G S) := hD0.self
  generalize hAe : zA cy G S s.heap.size = A at hD ⊢
  have hA : ∀ q : Nat, s.heap.size ≤ q → A q := fun q h => by rw [← hAe]; exact Or.inr h
  have hS : va_S A s.heap s.heap [] := va_S.rf
  have hst := zC.refl mo ad [] [0] S
  have hl := lv_entry ([.ref mo, .int k]) (n := 2) (Nat.le_of_ble_eq_true rfl)
  rw [lg_entry_eq]
  generalize (lg_sl ([.ref mo, .int k]) ++ List.replicate (2 - (lg_sl ([.ref mo, .int k])).length) Slot.unset).toArray = ls at hl ⊢
  have hl : lv_has ls 2 [(0, .ref mo), (1, .int k)] := hl
  have hi7 : ∀ w ∈ wsX70, w ∈ wsX7_count := by decide +kernel
  refine lv_aload_n hx hb dX7_count_0 rfl (lv_at hl 0 rfl) ?_
  refine lv_iload_n hx hb dX7_count_1 rfl (lv_at hl 1 rfl) ?_
  refine lv_iconst (v := 0) hx hb dX7_count_2 (by decide) ?_
  refine lv_iconst (v := 3) hx hb dX7_count_3 (by decide) ?_
  refine vp_callSi (va_Run.run (va_runS (As := [.int k, .int 0, .int 3]) (rest := [.ref mo]) ⟨hx, hb, hml, hown, hts⟩ (c_X7_isIn l k 0 3) (va_cwS 3 hts gX7_count_X7_isIn rfl rfl rfl (by decide +kernel) ⟨Nat.le_of_ble_eq_true rfl, Nat.le_of_ble_eq_true rfl⟩) zpreS0 rfl rfl hl.1 rfl (lv_room (Nat.le_of_ble_eq_true rfl)) dX7_count_4 ⟨Nat.le_of_ble_eq_true rfl, Nat.le_of_ble_eq_true rfl⟩)) (fun r1 hr1 => ?_)
  refine lv_if_eq (tgt := 14) hx hb dX7_count_7 (by decide) (fun c2 => ?_) (fun c2 => ?_)
  · skip
    refine lv_iconst (v := 1) hx hb dX7_count_14 (by decide) ?_
    refine zputi (ci := 7) (v := 1) (ty := .int) (C := RX7) (T := TX7) (N := 42) hx hb hts hi7 tyX7 tyX7_ok nmX7 hown hK hP hD hS hM.1 rfl rfl 0 (by decide) (hts (.fieldLink RX7 117 "LinClusterModel" "thrown" "I") (by decide +kernel)) (fun _ h9 => h9) rfl (by decide +kernel) rfl rfl (Nat.le_of_ble_eq_true rfl) rfl dX7_count_15 (fun H locs hP hD hS => ?_)
    have hst := zC.pf hM hst (k := 0) (by decide) 1
    have hI := hI.ffree hM (k := 0) (by decide) 1
    have kn3 := zpi_s S mo 0 1
    refine lv_aload_n hx hb dX7_count_18 rfl (lv_at hl 0 rfl) ?_
    refine zget (ci := 7) (C := RX7) (T := TX7) (N := 42) hx hb hts hi7 hown hK hP hM.1 rfl rfl 0 (by decide) (hts (.fieldLink RX7 117 "LinClusterModel" "thrown" "I") (by decide +kernel)) (fun _ h9 => h9) rfl dX7_count_19 ?_
    refine lv_topi (fun v4 ev4 => ?_)
    obtain rfl : v4 = 1 := ev4.trans kn3
    refine lv_if_le (tgt := 29) hx hb dX7_count_22 (by decide) (fun c5 => ?_) (fun c5 => ?_)
    · exact absurd c5 (by decide)
    · skip
      refine lv_iconst (v := 0) hx hb dX7_count_25 (by decide) ?_
      refine lv_goto (tgt := 68) hx hb dX7_count_26 (by decide) ?_
      exact W.iret (v := 0) hx hb hr (fun t ht hW => ⟨⟨0, (zpi S mo 0 1), rfl, ⟨⟨hst, hI⟩, ⟨by rw [kn3]; exact (kCount_out (zii0 hr1 c2)).symm, fun z9 => absurd (kn3.symm.trans z9) (by decide)⟩⟩, by rw [ht]; exact hP, va_K.moved hW.alike hK, hD⟩, hS.F ht⟩) hS.2.2 dX7_count_68
  · skip
    refine lv_iconst (v := 0) hx hb dX7_count_10 (by decide) ?_
    refine lv_goto (tgt := 15) hx hb dX7_count_11 (by decide) ?_
    refine zputi (ci := 7) (v := 0) (ty := .int) (C := RX7) (T := TX7) (N := 42) hx hb hts hi7 tyX7 tyX7_ok nmX7 hown hK hP hD hS hM.1 rfl rfl 0 (by decide) (hts (.fieldLink RX7 117 "LinClusterModel" "thrown" "I") (by decide +kernel)) (fun _ h9 => h9) rfl (by decide +kernel) rfl rfl (Nat.le_of_ble_eq_true rfl) rfl dX7_count_15 (fun H locs hP hD hS => ?_)
    have hst := zC.pf hM hst (k := 0) (by decide) 0
    have hI := hI.ffree hM (k := 0) (by decide) 0
    have kn6 := zpi_s S mo 0 0
    refine lv_aload_n hx hb dX7_count_18 rfl (lv_at hl 0 rfl) ?_
    refine zget (ci := 7) (C := RX7) (T := TX7) (N := 42) hx hb hts hi7 hown hK hP hM.1 rfl rfl 0 (by decide) (hts (.fieldLink RX7 117 "LinClusterModel" "thrown" "I") (by decide +kernel)) (fun _ h9 => h9) rfl dX7_count_19 ?_
    refine lv_topi (fun v7 ev7 => ?_)
    obtain rfl : v7 = 0 := ev7.trans kn6
    refine lv_if_le (tgt := 29) hx hb dX7_count_22 (by decide) (fun c8 => ?_) (fun c8 => ?_)
    · skip
      refine lv_iload_n hx hb dX7_count_29 rfl (lv_at hl 1 rfl) ?_
      refine lv_if_ne (tgt := 40) hx hb dX7_count_30 (by decide) (fun c9 => ?_) (fun c9 => ?_)
      · skip
        refine lv_iload_n hx hb dX7_count_40 rfl (lv_at hl 1 rfl) ?_
        refine lv_iconst (v := 1) hx hb dX7_count_41 (by decide) ?_
        refine lv_icmp_ne (tgt := 52) hx hb dX7_count_42 (by decide) (fun c10 => ?_) (fun c10 => ?_)
        · skip
          refine lv_iload_n hx hb dX7_count_52 rfl (lv_at hl 1 rfl) ?_
          refine lv_iconst (v := 2) hx hb dX7_count_53 (by decide) ?_
          refine lv_icmp_ne (tgt := 64) hx hb dX7_count_54 (by decide) (fun c11 => ?_) (fun c11 => ?_)
          · skip
            refine lv_aload_n hx hb dX7_count_64 rfl (lv_at hl 0 rfl) ?_
            refine zget (ci := 7) (C := RX7) (T := TX7) (N := 42) hx hb hts hi7 hown hK hP hM.1 rfl rfl 41 (by decide) (hts (.fieldLink RX7 137 "LinClusterModel" "disturbed" "I") (by decide +kernel)) (fun _ h9 => h9) rfl dX7_count_65 ?_
            refine lv_topi (fun v12 ev12 => ?_)
            exact W.iret (v := v12) hx hb hr (fun t ht hW => ⟨⟨v12, (zpi S mo 0 0), rfl, ⟨⟨hst, hI⟩, ⟨by rw [kn6]; exact (kCount_in (zii1 hr1 c2)).symm, fun _ => by unfold zmcount; rw [if_neg c9, if_neg c10, if_neg c11]; exact ev12.trans (zpi_ff S mo 0 0 (by decide) rfl)⟩⟩, by rw [ht]; exact hP, va_K.moved hW.alike hK, hD⟩, hS.F ht⟩) hS.2.2 dX7_count_68
          · skip
            refine lv_aload_n hx hb dX7_count_57 rfl (lv_at hl 0 rfl) ?_
            refine zget (ci := 7) (C := RX7) (T := TX7) (N := 42) hx hb hts hi7 hown hK hP hM.1 rfl rfl 36 (by decide) (hts (.fieldLink RX7 168 "LinClusterModel" "slotsBegan" "I") (by decide +kernel)) (fun _ h9 => h9) rfl dX7_count_58 ?_
            refine lv_topi (fun v13 ev13 => ?_)
            refine lv_goto (tgt := 68) hx hb dX7_count_61 (by decide) ?_
            exact W.iret (v := v13) hx hb hr (fun t ht hW => ⟨⟨v13, (zpi S mo 0 0), rfl, ⟨⟨hst, hI⟩, ⟨by rw [kn6]; exact (kCount_in (zii1 hr1 c2)).symm, fun _ => by unfold zmcount; rw [if_neg c9, if_neg c10, if_pos c11]; exact ev13.trans (zpi_ff S mo 0 0 (by decide) rfl)⟩⟩, by rw [ht]; exact hP, va_K.moved hW.alike hK, hD⟩, hS.F ht⟩) hS.2.2 dX7_count_68
        · skip
          refine lv_aload_n hx hb dX7_count_45 rfl (lv_at hl 0 rfl) ?_
          refine zget (ci := 7) (C := RX7) (T := TX7) (N := 42) hx hb hts hi7 hown hK hP hM.1 rfl rfl 34 (by decide) (hts (.fieldLink RX7 104 "LinClusterModel" "slot" "I") (by decide +kernel)) (fun _ h9 => h9) rfl dX7_count_46 ?_
          refine lv_topi (fun v14 ev14 => ?_)
          refine lv_goto (tgt := 68) hx hb dX7_count_49 (by decide) ?_
          exact W.iret (v := v14) hx hb hr (fun t ht hW => ⟨⟨v14, (zpi S mo 0 0), rfl, ⟨⟨hst, hI⟩, ⟨by rw [kn6]; exact (kCount_in (zii1 hr1 c2)).symm, fun _ => by unfold zmcount; rw [if_neg c9, if_pos c10]; exact ev14.trans (zpi_ff S mo 0 0 (by decide) rfl)⟩⟩, by rw [ht]; exact hP, va_K.moved hW.alike hK, hD⟩, hS.F ht⟩) hS.2.2 dX7_count_68
      · skip
        refine lv_aload_n hx hb dX7_count_33 rfl (lv_at hl 0 rfl) ?_
        refine zget (ci := 7) (C := RX7) (T := TX7) (N := 42) hx hb hts hi7 hown hK hP hM.1 rfl rfl 33 (by decide) (hts (.fieldLink RX7 128 "LinClusterModel" "time" "I") (by decide +kernel)) (fun _ h9 => h9) rfl dX7_count_34 ?_
        refine lv_topi (fun v15 ev15 => ?_)
        refine lv_goto (tgt := 68) hx hb dX7_count_37 (by decide) ?_
        exact W.iret (v := v15) hx hb hr (fun t ht hW => ⟨⟨v15, (zpi S mo 0 0), rfl, ⟨⟨hst, hI⟩, ⟨by rw [kn6]; exact (kCount_in (zii1 hr1 c2)).symm, fun _ => by unfold zmcount; rw [if_pos c9]; exact ev15.trans (zpi_ff S mo 0 0 (by decide) rfl)⟩⟩, by rw [ht]; exact hP, va_K.moved hW.alike hK, hD⟩, hS.F ht⟩) hS.2.2 dX7_count_68
    · exact absurd c8 (by decide)
set_option maxHeartbeats 4000000 in
set_option maxRecDepth 100000 in
theorem c_X7_line (l : Launch) (dC : Nat → ClassId) (dI : Nat → Nat → Nat) (cy : Nat → ClassId) (G : zG) (S : zS) (sz : Nat) (mo : Nat) (ad : Nat → Nat) (b : Int32) (t8 : Nat) (hM : zM G S mo ad) (hI : zI mo ad S) (ht8 : S.1 mo 33 = nI t8) (hlt8 : t8 ≤ 200000) : Met l yX7_line wsX7_line ({ frames := 1, cells := 0, slots := 0, locals := 22 }) (zP dC dI cy [.ref mo, .int b] G S sz) (va_Qi (fun (r : Int32) S' => (zC mo ad [] [0] S S' ∧ zI mo ad S') ∧ S'.1 mo 0 = kLine b ∧ (S'.1 mo 0 = 0 → S.1 mo 33 < b → r = 1)) (zB dC dI cy (zA cy G S sz) G) (zA cy G S sz)) 0 0 (zA cy G S sz) := by
  refine Met.ofW (cc := cX7_line) (maxL := 2) (ret := (some .int)) (by decide) rfl ?_
  intro p e s m args below meth c s₁ B hml hv
  obtain ⟨rfl, hsz, hP, hK, hD0, hN⟩ := hv
  have hx := B.exec
  have hb := B.bytes
  have hr := B.returns
  have hts := atoms_spec (ws := wsX7_line) B.pre
  have hown : s.vm.findClass RX7 = some m.cls := findClass_of_methodNamed B.named
  have hlocks := B.notSynchronized
  subst hsz
  have hD : va_D (zA cy G S s.heap.size) (zW cy G S) := hD0.self
  generalize hAe : zA cy G S s.heap.size = A at hD ⊢
  have hA : ∀ q : Nat, s.heap.size ≤ q → A q := fun q h => by rw [← hAe]; exact Or.inr h
  have hS : va_S A s.heap s.heap [] := va_S.rf
  have hst := zC.refl mo ad [] [0] S
  have hl := lv_entry ([.ref mo, .int b]) (n := 2) (Nat.le_of_ble_eq_true rfl)
  rw [lg_entry_eq]
  generalize (lg_sl ([.ref mo, .int b]) ++ List.replicate (2 - (lg_sl ([.ref mo, .int b])).length) Slot.unset).toArray = ls at hl ⊢
  have hl : lv_has ls 2 [(0, .ref mo), (1, .int b)] := hl
  have hi7 : ∀ w ∈ wsX70, w ∈ wsX7_line := by decide +kernel
  refine lv_aload_n hx hb dX7_line_0 rfl (lv_at hl 0 rfl) ?_
  refine lv_iload_n hx hb dX7_line_1 rfl (lv_at hl 1 rfl) ?_
  refine lv_iconst (v := 1) hx hb dX7_line_2 (by decide) ?_
  refine lv_bipush (v := 64) hx hb dX7_line_3 (by decide) ?_
  refine vp_callSi (va_Run.run (va_runS (As := [.int b, .int 1, .int 64]) (rest := [.ref mo]) ⟨hx, hb, hml, hown, hts⟩ (c_X7_isIn l b 1 64) (va_cwS 3 hts gX7_line_X7_isIn rfl rfl rfl (by decide +kernel) ⟨Nat.le_of_ble_eq_true rfl, Nat.le_of_ble_eq_true rfl⟩) zpreS0 rfl rfl hl.1 rfl (lv_room (Nat.le_of_ble_eq_true rfl)) dX7_line_5 ⟨Nat.le_of_ble_eq_true rfl, Nat.le_of_ble_eq_true rfl⟩)) (fun r1 hr1 => ?_)
  refine lv_if_eq (tgt := 15) hx hb dX7_line_8 (by decide) (fun c2 => ?_) (fun c2 => ?_)
  · skip
    refine lv_iconst (v := 1) hx hb dX7_line_15 (by decide) ?_
    refine zputi (ci := 7) (v := 1) (ty := .int) (C := RX7) (T := TX7) (N := 42) hx hb hts hi7 tyX7 tyX7_ok nmX7 hown hK hP hD hS hM.1 rfl rfl 0 (by decide) (hts (.fieldLink RX7 117 "LinClusterModel" "thrown" "I") (by decide +kernel)) (fun _ h9 => h9) rfl (by decide +kernel) rfl rfl (Nat.le_of_ble_eq_true rfl) rfl dX7_line_16 (fun H locs hP hD hS => ?_)
    have hst := zC.pf hM hst (k := 0) (by decide) 1
    have kn3 := zpi_ff S mo 0 1 (i := 33) (by decide) ht8
    have hI := hI.ffree hM (k := 0) (by decide) 1
    have kn4 := zpi_s S mo 0 1
    refine lv_aload_n hx hb dX7_line_19 rfl (lv_at hl 0 rfl) ?_
    refine zget (ci := 7) (C := RX7) (T := TX7) (N := 42) hx hb hts hi7 hown hK hP hM.1 rfl rfl 0 (by decide) (hts (.fieldLink RX7 117 "LinClusterModel" "thrown" "I") (by decide +kernel)) (fun _ h9 => h9) rfl dX7_line_20 ?_
    refine lv_topi (fun v5 ev5 => ?_)
    obtain rfl : v5 = 1 := ev5.trans kn4
    refine lv_if_le (tgt := 30) hx hb dX7_line_23 (by decide) (fun c6 => ?_) (fun c6 => ?_)
    · exact absurd c6 (by decide)
    · skip
      refine lv_iconst (v := 0) hx hb dX7_line_26 (by decide) ?_
      refine lv_goto (tgt := 56) hx hb dX7_line_27 (by decide) ?_
      exact W.iret (v := 0) hx hb hr (fun t ht hW => ⟨⟨0, (zpi S mo 0 1), rfl, ⟨⟨hst, hI⟩, ⟨by rw [kn4]; exact (if_pos ((zii0 hr1 c2).imp (fun q => q) Int32.not_le.mpr)).symm, fun z9 => absurd (kn4.symm.trans z9) (by decide)⟩⟩, by rw [ht]; exact hP, va_K.moved hW.alike hK, hD⟩, hS.F ht⟩) hS.2.2 dX7_line_56
  · skip
    refine lv_iconst (v := 0) hx hb dX7_line_11 (by decide) ?_
    refine lv_goto (tgt := 16) hx hb dX7_line_12 (by decide) ?_
    refine zputi (ci := 7) (v := 0) (ty := .int) (C := RX7) (T := TX7) (N := 42) hx hb hts hi7 tyX7 tyX7_ok nmX7 hown hK hP hD hS hM.1 rfl rfl 0 (by decide) (hts (.fieldLink RX7 117 "LinClusterModel" "thrown" "I") (by decide +kernel)) (fun _ h9 => h9) rfl (by decide +kernel) rfl rfl (Nat.le_of_ble_eq_true rfl) rfl dX7_line_16 (fun H locs hP hD hS => ?_)
    have hst := zC.pf hM hst (k := 0) (by decide) 0
    have kn7 := zpi_ff S mo 0 0 (i := 33) (by decide) ht8
    have hI := hI.ffree hM (k := 0) (by decide) 0
    have kn8 := zpi_s S mo 0 0
    refine lv_aload_n hx hb dX7_line_19 rfl (lv_at hl 0 rfl) ?_
    refine zget (ci := 7) (C := RX7) (T := TX7) (N := 42) hx hb hts hi7 hown hK hP hM.1 rfl rfl 0 (by decide) (hts (.fieldLink RX7 117 "LinClusterModel" "thrown" "I") (by decide +kernel)) (fun _ h9 => h9) rfl dX7_line_20 ?_
    refine lv_topi (fun v9 ev9 => ?_)
    obtain rfl : v9 = 0 := ev9.trans kn8
    refine lv_if_le (tgt := 30) hx hb dX7_line_23 (by decide) (fun c10 => ?_) (fun c10 => ?_)
    · skip
      refine lv_iload_n hx hb dX7_line_30 rfl (lv_at hl 1 rfl) ?_
      refine lv_aload_n hx hb dX7_line_31 rfl (lv_at hl 0 rfl) ?_
      refine zget (ci := 7) (C := RX7) (T := TX7) (N := 42) hx hb hts hi7 hown hK hP hM.1 rfl rfl 33 (by decide) (hts (.fieldLink RX7 128 "LinClusterModel" "time" "I") (by decide +kernel)) (fun _ h9 => h9) rfl dX7_line_32 ?_
      refine lv_topi (fun v11 ev11 => ?_)
      obtain rfl : v11 = (nI t8) := ev11.trans kn7
      refine lv_icmp_le (tgt := 42) hx hb dX7_line_35 (by decide) (fun c12 => ?_) (fun c12 => ?_)
      · skip
        obtain ⟨b8, hb8, rfl⟩ := nI_of2 (M := 64) (n := 64) (x := b) (by decide) (fun z9 => (zii1 hr1 c2).1 (Int32.lt_of_lt_of_le z9 (by decide))) (Int32.not_lt.mp (zii1 hr1 c2).2)
        have hle9 : b8 ≤ t8 := (nI_leI (by omega) (by omega)).mp c12
        refine lv_aload_n hx hb dX7_line_42 rfl (lv_at hl 0 rfl) ?_
        refine zget (ci := 7) (C := RX7) (T := TX7) (N := 42) hx hb hts hi7 hown hK hP hM.1 rfl rfl 38 (by decide) (hts (.fieldLink RX7 108 "LinClusterModel" "lines" "[I") (by decide +kernel)) (fun _ h9 => h9) (v := .ref (ad 38)) (congrArg (fun z => some (va_rf z)) (((hM.eq hst.1).2.1 38 (by decide)).1)) dX7_line_43 ?_
        refine lv_aload_n hx hb dX7_line_46 rfl (lv_at hl 0 rfl) ?_
        refine zget (ci := 7) (C := RX7) (T := TX7) (N := 42) hx hb hts hi7 hown hK hP hM.1 rfl rfl 33 (by decide) (hts (.fieldLink RX7 128 "LinClusterModel" "time" "I") (by decide +kernel)) (fun _ h9 => h9) rfl dX7_line_47 ?_
        refine lv_topi (fun v13 ev13 => ?_)
        obtain rfl : v13 = (nI t8) := ev13.trans kn7
        refine lv_iload_n hx hb dX7_line_50 rfl (lv_at hl 1 rfl) ?_
        refine lv_isub hx hb dX7_line_51 ?_
        refine lv_topi (fun v14 ev14 => ?_)
        obtain rfl : v14 = nI (t8 - b8) := ev14.trans (pk_sub hle9)
        refine lv_bipush (v := 64) hx hb dX7_line_52 (by decide) ?_
        refine lv_irem hx hb dX7_line_54 (by decide) ?_
        refine lv_topi (fun v15 ev15 => ?_)
        obtain rfl : v15 = nI ((t8 - b8) % 64) := ev15.trans (pk_rem (a := t8 - b8) (d := 64) (by omega) (by omega) (by omega))
        refine ziald hx hb hK hP (hM.2.1 38 (by decide)).2.1 (show G.2.2 (ad 38) = 64 from (hM.2.1 38 (by decide)).2.2) (vp_in_nI (n := ((t8 - b8) % 64)) (N := 64) (by omega) (by omega)) dX7_line_55 ?_
        refine lv_topi (fun v16 ev16 => ?_)
        rw [(nI_clamp (n := ((t8 - b8) % 64)) (by omega))] at ev16
        exact W.iret (v := v16) hx hb hr (fun t ht hW => ⟨⟨v16, (zpi S mo 0 0), rfl, ⟨⟨hst, hI⟩, ⟨by rw [kn8]; exact (if_neg (fun z9 => z9.elim (zii1 hr1 c2).1 (fun z8 => z8 (Int32.not_lt.mp (zii1 hr1 c2).2)))).symm, fun _ z9 => absurd c12 (Int32.not_le.mpr (by rw [← ht8]; exact z9))⟩⟩, by rw [ht]; exact hP, va_K.moved hW.alike hK, hD⟩, hS.F ht⟩) hS.2.2 dX7_line_56
      · skip
        refine lv_iconst (v := 1) hx hb dX7_line_38 (by decide) ?_
        refine lv_goto (tgt := 56) hx hb dX7_line_39 (by decide) ?_
        exact W.iret (v := 1) hx hb hr (fun t ht hW => ⟨⟨1, (zpi S mo 0 0), rfl, ⟨⟨hst, hI⟩, ⟨by rw [kn8]; exact (if_neg (fun z9 => z9.elim (zii1 hr1 c2).1 (fun z8 => z8 (Int32.not_lt.mp (zii1 hr1 c2).2)))).symm, fun _ _ => rfl⟩⟩, by rw [ht]; exact hP, va_K.moved hW.alike hK, hD⟩, hS.F ht⟩) hS.2.2 dX7_line_56
    · exact absurd c10 (by decide)
set_option maxHeartbeats 4000000 in
set_option maxRecDepth 100000 in
theorem c_X7_checks (l : Launch) (dC : Nat → ClassId) (dI : Nat → Nat → Nat) (cy : Nat → ClassId) (G : zG) (S : zS) (sz : Nat) (mo : Nat) (ad : Nat → Nat) (id : Int32) (hM : zM G S mo ad) (hI : zI mo ad S) : Met l yX7_checks wsX7_checks ({ frames := 2, cells := 0, slots := 0, locals := 43 }) (zP dC dI cy [.ref mo, .int id] G S sz) (va_Qi (fun (r : Int32) S' => (zC mo ad [] [0] S S' ∧ zI mo ad S') ∧ ∃ q, zmo S ad id q ∧ S'.1 mo 0 = kChecks q ∧ (S'.1 mo 0 = 0 → ∃ j L, j < 62 ∧ L ≤ 8 ∧ id = nI j ∧ S.1 (ad 2) j = nI L ∧ r = zpidm (nI j) + 256 * (255 - zsum (fun k => S.1 (ad 5) (8 * j + k)) (if zenh (S.1 (ad 4) j) j = 0 then 0 else zpidm (nI j)) L))) (zB dC dI cy (zA cy G S sz) G) (zA cy G S sz)) 0 0 (zA cy G S sz) := by
  refine Met.ofW (cc := cX7_checks) (maxL := 2) (ret := (some .int)) (by decide) rfl ?_
  intro p e s m args below meth c s₁ B hml hv
  obtain ⟨rfl, hsz, hP, hK, hD0, hN⟩ := hv
  have hx := B.exec
  have hb := B.bytes
  have hr := B.returns
  have hts := atoms_spec (ws := wsX7_checks) B.pre
  have hown : s.vm.findClass RX7 = some m.cls := findClass_of_methodNamed B.named
  have hlocks := B.notSynchronized
  subst hsz
  have hD : va_D (zA cy G S s.heap.size) (zW cy G S) := hD0.self
  generalize hAe : zA cy G S s.heap.size = A at hD ⊢
  have hA : ∀ q : Nat, s.heap.size ≤ q → A q := fun q h => by rw [← hAe]; exact Or.inr h
  have hS : va_S A s.heap s.heap [] := va_S.rf
  have hst := zC.refl mo ad [] [0] S
  have hl := lv_entry ([.ref mo, .int id]) (n := 2) (Nat.le_of_ble_eq_true rfl)
  rw [lg_entry_eq]
  generalize (lg_sl ([.ref mo, .int id]) ++ List.replicate (2 - (lg_sl ([.ref mo, .int id])).length) Slot.unset).toArray = ls at hl ⊢
  have hl : lv_has ls 2 [(0, .ref mo), (1, .int id)] := hl
  have hi7 : ∀ w ∈ wsX70, w ∈ wsX7_checks := by decide +kernel
  refine lv_aload_n hx hb dX7_checks_0 rfl (lv_at hl 0 rfl) ?_
  refine lv_aload_n hx hb dX7_checks_1 rfl (lv_at hl 0 rfl) ?_
  refine lv_iload_n hx hb dX7_checks_2 rfl (lv_at hl 1 rfl) ?_
  refine vp_callSi (va_Run.run (va_runV (As := [.int id]) (rest := [.ref mo]) ⟨hx, hb, hml, hown, hts⟩ (c_X7_isFrame l dC dI cy G S s.heap.size mo ad id (hM.eq hst.1)) (cwV 1 hts gX7_checks_X7_isFrame rfl rfl rfl (by decide +kernel) ⟨Nat.le_of_ble_eq_true rfl, Nat.le_of_ble_eq_true rfl⟩) (zpreV hK hP hD hN (zrecv7 hK hP hM.1)) rfl rfl hl.1 rfl (lv_room (Nat.le_of_ble_eq_true rfl)) dX7_checks_3 ⟨Nat.le_of_ble_eq_true rfl, Nat.le_of_ble_eq_true rfl⟩)) (fun r1 hr1 => ?_)
  refine lv_if_eq (tgt := 13) hx hb dX7_checks_6 (by decide) (fun c2 => ?_) (fun c2 => ?_)
  · skip
    refine lv_iconst (v := 1) hx hb dX7_checks_13 (by decide) ?_
    refine zputi (ci := 7) (v := 1) (ty := .int) (C := RX7) (T := TX7) (N := 42) hx hb hts hi7 tyX7 tyX7_ok nmX7 hown hK hP hD hS hM.1 rfl rfl 0 (by decide) (hts (.fieldLink RX7 117 "LinClusterModel" "thrown" "I") (by decide +kernel)) (fun _ h9 => h9) rfl (by decide +kernel) rfl rfl (Nat.le_of_ble_eq_true rfl) rfl dX7_checks_14 (fun H locs hP hD hS => ?_)
    have hst := zC.pf hM hst (k := 0) (by decide) 1
    have hI := hI.ffree hM (k := 0) (by decide) 1
    have kn3 := zpi_s S mo 0 1
    refine lv_aload_n hx hb dX7_checks_17 rfl (lv_at hl 0 rfl) ?_
    refine zget (ci := 7) (C := RX7) (T := TX7) (N := 42) hx hb hts hi7 hown hK hP hM.1 rfl rfl 0 (by decide) (hts (.fieldLink RX7 117 "LinClusterModel" "thrown" "I") (by decide +kernel)) (fun _ h9 => h9) rfl dX7_checks_18 ?_
    refine lv_topi (fun v4 ev4 => ?_)
    obtain rfl : v4 = 1 := ev4.trans kn3
    refine lv_if_le (tgt := 28) hx hb dX7_checks_21 (by decide) (fun c5 => ?_) (fun c5 => ?_)
    · exact absurd c5 (by decide)
    · skip
      refine lv_iconst (v := 0) hx hb dX7_checks_24 (by decide) ?_
      refine lv_goto (tgt := 70) hx hb dX7_checks_25 (by decide) ?_
      exact W.iret (v := 0) hx hb hr (fun t ht hW => ⟨⟨0, (zpi S mo 0 1), rfl, ⟨⟨hst, hI⟩, ⟨none, (zmo0 (zfr0 hr1 c2)), by show _ = (1 : Int32); rw [kn3], fun z9 => absurd (kn3.symm.trans z9) (by decide)⟩⟩, by rw [ht]; exact hP, va_K.moved hW.alike hK, hD⟩, hS.F ht⟩) hS.2.2 dX7_checks_70
  · skip
    obtain ⟨i8, hi8, rfl, hth8⟩ := zfr1 hr1 c2
    refine lv_iconst (v := 0) hx hb dX7_checks_9 (by decide) ?_
    refine lv_goto (tgt := 14) hx hb dX7_checks_10 (by decide) ?_
    refine zputi (ci := 7) (v := 0) (ty := .int) (C := RX7) (T := TX7) (N := 42) hx hb hts hi7 tyX7 tyX7_ok nmX7 hown hK hP hD hS hM.1 rfl rfl 0 (by decide) (hts (.fieldLink RX7 117 "LinClusterModel" "thrown" "I") (by decide +kernel)) (fun _ h9 => h9) rfl (by decide +kernel) rfl rfl (Nat.le_of_ble_eq_true rfl) rfl dX7_checks_14 (fun H locs hP hD hS => ?_)
    have hst := zC.pf hM hst (k := 0) (by decide) 0
    have hI := hI.ffree hM (k := 0) (by decide) 0
    have kn6 := zpi_s S mo 0 0
    refine lv_aload_n hx hb dX7_checks_17 rfl (lv_at hl 0 rfl) ?_
    refine zget (ci := 7) (C := RX7) (T := TX7) (N := 42) hx hb hts hi7 hown hK hP hM.1 rfl rfl 0 (by decide) (hts (.fieldLink RX7 117 "LinClusterModel" "thrown" "I") (by decide +kernel)) (fun _ h9 => h9) rfl dX7_checks_18 ?_
    refine lv_topi (fun v7 ev7 => ?_)
    obtain rfl : v7 = 0 := ev7.trans kn6
    refine lv_if_le (tgt := 28) hx hb dX7_checks_21 (by decide) (fun c8 => ?_) (fun c8 => ?_)
    · skip
      refine lv_iload_n hx hb dX7_checks_28 rfl (lv_at hl 1 rfl) ?_
      refine vp_callSi (va_Run.run (va_runS (As := [.int (nI i8)]) (rest := []) ⟨hx, hb, hml, hown, hts⟩ (c_X7_pidOf l (nI i8)) (va_cwS 1 hts gX7_checks_X7_pidOf rfl rfl rfl (by decide +kernel) ⟨Nat.le_of_ble_eq_true rfl, Nat.le_of_ble_eq_true rfl⟩) zpreS0 rfl rfl hl.1 rfl (lv_room (Nat.le_of_ble_eq_true rfl)) dX7_checks_29 ⟨Nat.le_of_ble_eq_true rfl, Nat.le_of_ble_eq_true rfl⟩)) (fun r9 hr9 => ?_)
      refine lv_sipush (v := 256) hx hb dX7_checks_32 (by decide) ?_
      refine lv_aload_n hx hb dX7_checks_35 rfl (lv_at hl 0 rfl) ?_
      refine zget (ci := 7) (C := RX7) (T := TX7) (N := 42) hx hb hts hi7 hown hK hP hM.1 rfl rfl 5 (by decide) (hts (.fieldLink RX7 23 "LinClusterModel" "bytes" "[I") (by decide +kernel)) (fun _ h9 => h9) (v := .ref (ad 5)) (congrArg (fun z => some (va_rf z)) (((hM.eq hst.1).2.1 5 (by decide)).1)) dX7_checks_36 ?_
      refine lv_bipush (v := 8) hx hb dX7_checks_39 (by decide) ?_
      refine lv_iload_n hx hb dX7_checks_41 rfl (lv_at hl 1 rfl) ?_
      refine lv_imul hx hb dX7_checks_42 ?_
      refine lv_topi (fun v10 ev10 => ?_)
      obtain rfl : v10 = nI (8 * i8) := ev10.trans (pk_mul 8 i8)
      refine lv_aload_n hx hb dX7_checks_43 rfl (lv_at hl 0 rfl) ?_
      refine zget (ci := 7) (C := RX7) (T := TX7) (N := 42) hx hb hts hi7 hown hK hP hM.1 rfl rfl 2 (by decide) (hts (.fieldLink RX7 13 "LinClusterModel" "lengths" "[I") (by decide +kernel)) (fun _ h9 => h9) (v := .ref (ad 2)) (congrArg (fun z => some (va_rf z)) (((hM.eq hst.1).2.1 2 (by decide)).1)) dX7_checks_44 ?_
      refine lv_iload_n hx hb dX7_checks_47 rfl (lv_at hl 1 rfl) ?_
      refine ziald hx hb hK hP (hM.2.1 2 (by decide)).2.1 (show G.2.2 (ad 2) = 62 from (hM.2.1 2 (by decide)).2.2) (vp_in_nI (n := i8) (N := 62) (by omega) (by omega)) dX7_checks_48 ?_
      refine lv_topi (fun v11 ev11 => ?_)
      rw [(nI_clamp (n := i8) (by omega))] at ev11
      obtain ⟨L8, hL8, eL8⟩ := hI.len hi8
      obtain rfl : v11 = nI L8 := ev11.trans eL8
      refine lv_aload_n hx hb dX7_checks_49 rfl (lv_at hl 0 rfl) ?_
      refine lv_iload_n hx hb dX7_checks_50 rfl (lv_at hl 1 rfl) ?_
      refine vp_callSi (va_Run.run (va_runV (As := [.int (nI i8)]) (rest := [.int (nI L8), .int (nI (8 * i8)), .ref (ad 5), .int 256, .int r9]) ⟨hx, hb, hml, hown, hts⟩ (c_X7_isEnhanced l dC dI cy G (zpi S mo 0 0) H.size mo ad i8 (hM.eq hst.1) (by omega)) (cwV 1 hts gX7_checks_X7_isEnhanced rfl rfl rfl (by decide +kernel) ⟨Nat.le_of_ble_eq_true rfl, Nat.le_of_ble_eq_true rfl⟩) (zpreV hK hP hD hN (zrecv7 hK hP hM.1)) rfl rfl hl.1 rfl (lv_room (Nat.le_of_ble_eq_true rfl)) dX7_checks_51 ⟨Nat.le_of_ble_eq_true rfl, Nat.le_of_ble_eq_true rfl⟩)) (fun r12 hr12 => ?_)
      refine lv_if_eq (tgt := 64) hx hb dX7_checks_54 (by decide) (fun c13 => ?_) (fun c13 => ?_)
      · skip
        refine lv_iconst (v := 0) hx hb dX7_checks_64 (by decide) ?_
        refine vp_callSi (va_Run.run (va_runS (As := [.ref (ad 5), .int (nI (8 * i8)), .int (nI L8), .int 0]) (rest := [.int 256, .int r9]) ⟨hx, hb, hml, hown, hts⟩ (c_X7_checksum l dC dI cy G (zpi S mo 0 0) H.size (ad 5) (8 * i8) L8 496 0 (hM.2.1 5 (by decide)).2.1 (show G.2.2 (ad 5) = 496 from (hM.2.1 5 (by decide)).2.2) (by omega) (by omega)) (va_cwS 4 hts gX7_checks_X7_checksum rfl rfl rfl (by decide +kernel) ⟨Nat.le_of_ble_eq_true rfl, Nat.le_of_ble_eq_true rfl⟩) (zpreS hK hP hD hN) rfl rfl hl.1 rfl (lv_room (Nat.le_of_ble_eq_true rfl)) dX7_checks_65 ⟨Nat.le_of_ble_eq_true rfl, Nat.le_of_ble_eq_true rfl⟩)) (fun r14 hr14 => ?_)
        refine lv_imul hx hb dX7_checks_68 ?_
        refine lv_topi (fun v15 ev15 => ?_)
        refine lv_iadd hx hb dX7_checks_69 ?_
        refine lv_topi (fun v16 ev16 => ?_)
        exact W.iret (v := v16) hx hb hr (fun t ht hW => ⟨⟨v16, (zpi S mo 0 0), rfl, ⟨⟨hst, hI⟩, ⟨_, zmo1 hi8 hth8, by show _ = (0 : Int32); rw [kn6], fun _ => ⟨i8, L8, hi8, hL8, rfl, by rw [← eL8, zpi_off S (hM.mo (i := 2) (by decide)) 0 0], by rw [if_pos ((hr12.trans (by rw [zpi_off S (hM.mo (i := 4) (by decide)) 0 0])).symm.trans c13), ev16]; rw [zpi_off S (hM.mo (i := 5) (by decide)) 0 0] at hr14; subst_vars; rfl⟩⟩⟩, by rw [ht]; exact hP, va_K.moved hW.alike hK, hD⟩, hS.F ht⟩) hS.2.2 dX7_checks_70
      · skip
        refine lv_iload_n hx hb dX7_checks_57 rfl (lv_at hl 1 rfl) ?_
        refine vp_callSi (va_Run.run (va_runS (As := [.int (nI i8)]) (rest := [.int (nI L8), .int (nI (8 * i8)), .ref (ad 5), .int 256, .int r9]) ⟨hx, hb, hml, hown, hts⟩ (c_X7_pidOf l (nI i8)) (va_cwS 1 hts gX7_checks_X7_pidOf rfl rfl rfl (by decide +kernel) ⟨Nat.le_of_ble_eq_true rfl, Nat.le_of_ble_eq_true rfl⟩) zpreS0 rfl rfl hl.1 rfl (lv_room (Nat.le_of_ble_eq_true rfl)) dX7_checks_58 ⟨Nat.le_of_ble_eq_true rfl, Nat.le_of_ble_eq_true rfl⟩)) (fun r17 hr17 => ?_)
        refine lv_goto (tgt := 65) hx hb dX7_checks_61 (by decide) ?_
        refine vp_callSi (va_Run.run (va_runS (As := [.ref (ad 5), .int (nI (8 * i8)), .int (nI L8), .int r17]) (rest := [.int 256, .int r9]) ⟨hx, hb, hml, hown, hts⟩ (c_X7_checksum l dC dI cy G (zpi S mo 0 0) H.size (ad 5) (8 * i8) L8 496 r17 (hM.2.1 5 (by decide)).2.1 (show G.2.2 (ad 5) = 496 from (hM.2.1 5 (by decide)).2.2) (by omega) (by omega)) (va_cwS 4 hts gX7_checks_X7_checksum rfl rfl rfl (by decide +kernel) ⟨Nat.le_of_ble_eq_true rfl, Nat.le_of_ble_eq_true rfl⟩) (zpreS hK hP hD hN) rfl rfl hl.1 rfl (lv_room (Nat.le_of_ble_eq_true rfl)) dX7_checks_65 ⟨Nat.le_of_ble_eq_true rfl, Nat.le_of_ble_eq_true rfl⟩)) (fun r18 hr18 => ?_)
        refine lv_imul hx hb dX7_checks_68 ?_
        refine lv_topi (fun v19 ev19 => ?_)
        refine lv_iadd hx hb dX7_checks_69 ?_
        refine lv_topi (fun v20 ev20 => ?_)
        exact W.iret (v := v20) hx hb hr (fun t ht hW => ⟨⟨v20, (zpi S mo 0 0), rfl, ⟨⟨hst, hI⟩, ⟨_, zmo1 hi8 hth8, by show _ = (0 : Int32); rw [kn6], fun _ => ⟨i8, L8, hi8, hL8, rfl, by rw [← eL8, zpi_off S (hM.mo (i := 2) (by decide)) 0 0], by rw [if_neg (fun z9 => c13 ((hr12.trans (by rw [zpi_off S (hM.mo (i := 4) (by decide)) 0 0])).trans z9)), ev20]; rw [zpi_off S (hM.mo (i := 5) (by decide)) 0 0, hr17] at hr18; subst_vars; rfl⟩⟩⟩, by rw [ht]; exact hP, va_K.moved hW.alike hK, hD⟩, hS.F ht⟩) hS.2.2 dX7_checks_70
    · exact absurd c8 (by decide)
