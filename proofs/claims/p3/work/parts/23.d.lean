set_option maxHeartbeats 4000000 in
set_option maxRecDepth 100000 in
theorem c_X7_slot (l : Launch) (dC : Nat → ClassId) (dI : Nat → Nat → Nat) (cy : Nat → ClassId) (G : zG) (S : zS) (sz : Nat) (mo : Nat) (ad : Nat → Nat) (id b : Int32) (hM : zM G S mo ad) (hI : zI mo ad S) : Met l yX7_slot wsX7_slot ({ frames := 2, cells := 0, slots := 0, locals := 43 }) (zP dC dI cy [.ref mo, .int id, .int b] G S sz) (va_Qi (fun (r : Int32) S' => (zC mo ad [10, 11] [0, 9] S S' ∧ zI mo ad S') ∧ ∃ q, zmo S ad id q ∧ S'.1 mo 0 = kSlot (S.1 mo 33) (S.1 mo 9) q b ∧ (S'.1 mo 0 = 0 → r = S.1 mo 9 ∧ S'.1 mo 9 = S.1 mo 9 + 1) ∧ (¬ S'.1 mo 0 = 0 → S'.1 mo 9 = S.1 mo 9)) (zB dC dI cy (zA cy G S sz) G) (zA cy G S sz)) 0 0 (zA cy G S sz) := by
  refine Met.ofW (cc := cX7_slot) (maxL := 3) (ret := (some .int)) (by decide) rfl ?_
  intro p e s m args below meth c s₁ B hml hv
  obtain ⟨rfl, hsz, hP, hK, hD0, hN⟩ := hv
  have hx := B.exec
  have hb := B.bytes
  have hr := B.returns
  have hts := atoms_spec (ws := wsX7_slot) B.pre
  have hown : s.vm.findClass RX7 = some m.cls := findClass_of_methodNamed B.named
  have hlocks := B.notSynchronized
  subst hsz
  have hD : va_D (zA cy G S s.heap.size) (zW cy G S) := hD0.self
  generalize hAe : zA cy G S s.heap.size = A at hD ⊢
  have hA : ∀ q : Nat, s.heap.size ≤ q → A q := fun q h => by rw [← hAe]; exact Or.inr h
  have hS : va_S A s.heap s.heap [] := va_S.rf
  have hst := zC.refl mo ad [10, 11] [0, 9] S
  have hl := lv_entry ([.ref mo, .int id, .int b]) (n := 3) (Nat.le_of_ble_eq_true rfl)
  rw [lg_entry_eq]
  generalize (lg_sl ([.ref mo, .int id, .int b]) ++ List.replicate (3 - (lg_sl ([.ref mo, .int id, .int b])).length) Slot.unset).toArray = ls at hl ⊢
  have hl : lv_has ls 3 [(0, .ref mo), (1, .int id), (2, .int b)] := hl
  have hi7 : ∀ w ∈ wsX70, w ∈ wsX7_slot := by decide +kernel
  obtain ⟨q8, hq8, eq8⟩ := hI.2.1
  refine lv_aload_n hx hb dX7_slot_0 rfl (lv_at hl 0 rfl) ?_
  refine lv_aload_n hx hb dX7_slot_1 rfl (lv_at hl 0 rfl) ?_
  refine lv_iload_n hx hb dX7_slot_2 rfl (lv_at hl 1 rfl) ?_
  refine vp_callSi (va_Run.run (va_runV (As := [.int id]) (rest := [.ref mo]) ⟨hx, hb, hml, hown, hts⟩ (c_X7_isFrame l dC dI cy G S s.heap.size mo ad id (hM.eq hst.1)) (cwV 1 hts gX7_slot_X7_isFrame rfl rfl rfl (by decide +kernel) ⟨Nat.le_of_ble_eq_true rfl, Nat.le_of_ble_eq_true rfl⟩) (zpreV hK hP hD hN (zrecv7 hK hP hM.1)) rfl rfl hl.1 rfl (lv_room (Nat.le_of_ble_eq_true rfl)) dX7_slot_3 ⟨Nat.le_of_ble_eq_true rfl, Nat.le_of_ble_eq_true rfl⟩)) (fun r1 hr1 => ?_)
  refine lv_if_eq (tgt := 21) hx hb dX7_slot_6 (by decide) (fun c2 => ?_) (fun c2 => ?_)
  · skip
    refine lv_iconst (v := 1) hx hb dX7_slot_21 (by decide) ?_
    refine lv_goto (tgt := 46) hx hb dX7_slot_22 (by decide) ?_
    refine zputi (ci := 7) (v := 1) (ty := .int) (C := RX7) (T := TX7) (N := 42) hx hb hts hi7 tyX7 tyX7_ok nmX7 hown hK hP hD hS hM.1 rfl rfl 0 (by decide) (hts (.fieldLink RX7 117 "LinClusterModel" "thrown" "I") (by decide +kernel)) (fun _ h9 => h9) rfl (by decide +kernel) rfl rfl (Nat.le_of_ble_eq_true rfl) rfl dX7_slot_46 (fun H locs hP hD hS => ?_)
    have hst := zC.pf hM hst (k := 0) (by decide) 1
    have kn3 := zpi_ff S mo 0 1 (i := 9) (by decide) eq8
    have hI := hI.ffree hM (k := 0) (by decide) 1
    have kn4 := zpi_s S mo 0 1
    refine lv_aload_n hx hb dX7_slot_49 rfl (lv_at hl 0 rfl) ?_
    refine zget (ci := 7) (C := RX7) (T := TX7) (N := 42) hx hb hts hi7 hown hK hP hM.1 rfl rfl 0 (by decide) (hts (.fieldLink RX7 117 "LinClusterModel" "thrown" "I") (by decide +kernel)) (fun _ h9 => h9) rfl dX7_slot_50 ?_
    refine lv_topi (fun v5 ev5 => ?_)
    obtain rfl : v5 = 1 := ev5.trans kn4
    refine lv_if_le (tgt := 58) hx hb dX7_slot_53 (by decide) (fun c6 => ?_) (fun c6 => ?_)
    · exact absurd c6 (by decide)
    · skip
      refine lv_iconst (v := 0) hx hb dX7_slot_56 (by decide) ?_
      exact W.iret (v := 0) hx hb hr (fun t ht hW => ⟨⟨0, (zpi S mo 0 1), rfl, ⟨⟨hst, hI⟩, ⟨none, (zmo0 (zfr0 hr1 c2)), by show _ = (1 : Int32); rw [kn4], fun z9 => absurd (kn4.symm.trans z9) (by decide), fun _ => by rw [zpi_ff S mo 0 1 (by decide) rfl]⟩⟩, by rw [ht]; exact hP, va_K.moved hW.alike hK, hD⟩, hS.F ht⟩) hS.2.2 dX7_slot_57
  · skip
    obtain ⟨i8, hi8, rfl, hth8⟩ := zfr1 hr1 c2
    refine lv_iload_n hx hb dX7_slot_9 rfl (lv_at hl 2 rfl) ?_
    refine lv_bipush (v := 50) hx hb dX7_slot_10 (by decide) ?_
    refine lv_sipush (v := 400) hx hb dX7_slot_12 (by decide) ?_
    refine vp_callSi (va_Run.run (va_runS (As := [.int b, .int 50, .int 400]) (rest := [.ref mo]) ⟨hx, hb, hml, hown, hts⟩ (c_X7_isIn l b 50 400) (va_cwS 3 hts gX7_slot_X7_isIn rfl rfl rfl (by decide +kernel) ⟨Nat.le_of_ble_eq_true rfl, Nat.le_of_ble_eq_true rfl⟩) zpreS0 rfl rfl hl.1 rfl (lv_room (Nat.le_of_ble_eq_true rfl)) dX7_slot_15 ⟨Nat.le_of_ble_eq_true rfl, Nat.le_of_ble_eq_true rfl⟩)) (fun r7 hr7 => ?_)
    refine lv_if_ne (tgt := 25) hx hb dX7_slot_18 (by decide) (fun c8 => ?_) (fun c8 => ?_)
    · skip
      refine lv_aload_n hx hb dX7_slot_25 rfl (lv_at hl 0 rfl) ?_
      refine zget (ci := 7) (C := RX7) (T := TX7) (N := 42) hx hb hts hi7 hown hK hP hM.1 rfl rfl 33 (by decide) (hts (.fieldLink RX7 128 "LinClusterModel" "time" "I") (by decide +kernel)) (fun _ h9 => h9) rfl dX7_slot_26 ?_
      refine lv_topi (fun v9 ev9 => ?_)
      refine lv_if_gt (tgt := 41) hx hb dX7_slot_29 (by decide) (fun c10 => ?_) (fun c10 => ?_)
      · skip
        refine lv_iconst (v := 2) hx hb dX7_slot_41 (by decide) ?_
        refine lv_goto (tgt := 46) hx hb dX7_slot_42 (by decide) ?_
        refine zputi (ci := 7) (v := 2) (ty := .int) (C := RX7) (T := TX7) (N := 42) hx hb hts hi7 tyX7 tyX7_ok nmX7 hown hK hP hD hS hM.1 rfl rfl 0 (by decide) (hts (.fieldLink RX7 117 "LinClusterModel" "thrown" "I") (by decide +kernel)) (fun _ h9 => h9) rfl (by decide +kernel) rfl rfl (Nat.le_of_ble_eq_true rfl) rfl dX7_slot_46 (fun H locs hP hD hS => ?_)
        have hst := zC.pf hM hst (k := 0) (by decide) 2
        have kn11 := zpi_ff S mo 0 2 (i := 9) (by decide) eq8
        have hI := hI.ffree hM (k := 0) (by decide) 2
        have kn12 := zpi_s S mo 0 2
        refine lv_aload_n hx hb dX7_slot_49 rfl (lv_at hl 0 rfl) ?_
        refine zget (ci := 7) (C := RX7) (T := TX7) (N := 42) hx hb hts hi7 hown hK hP hM.1 rfl rfl 0 (by decide) (hts (.fieldLink RX7 117 "LinClusterModel" "thrown" "I") (by decide +kernel)) (fun _ h9 => h9) rfl dX7_slot_50 ?_
        refine lv_topi (fun v13 ev13 => ?_)
        obtain rfl : v13 = 2 := ev13.trans kn12
        refine lv_if_le (tgt := 58) hx hb dX7_slot_53 (by decide) (fun c14 => ?_) (fun c14 => ?_)
        · exact absurd c14 (by decide)
        · skip
          refine lv_iconst (v := 0) hx hb dX7_slot_56 (by decide) ?_
          exact W.iret (v := 0) hx hb hr (fun t ht hW => ⟨⟨0, (zpi S mo 0 2), rfl, ⟨⟨hst, hI⟩, ⟨_, zmo1 hi8 hth8, by rw [kn12]; show (2 : Int32) = (if _ then _ else if _ then _ else _ : Int32); rw [if_neg (fun z9 => z9.elim (zii1 hr7 c8).1 (fun z8 => z8 (Int32.not_lt.mp (zii1 hr7 c8).2))), if_pos (Or.inl (by rw [← ev9]; exact c10))], fun z9 => absurd (kn12.symm.trans z9) (by decide), fun _ => by rw [zpi_ff S mo 0 2 (by decide) rfl]⟩⟩, by rw [ht]; exact hP, va_K.moved hW.alike hK, hD⟩, hS.F ht⟩) hS.2.2 dX7_slot_57
      · skip
        refine lv_aload_n hx hb dX7_slot_32 rfl (lv_at hl 0 rfl) ?_
        refine zget (ci := 7) (C := RX7) (T := TX7) (N := 42) hx hb hts hi7 hown hK hP hM.1 rfl rfl 9 (by decide) (hts (.fieldLink RX7 134 "LinClusterModel" "slots" "I") (by decide +kernel)) (fun _ h9 => h9) rfl dX7_slot_33 ?_
        refine lv_topi (fun v15 ev15 => ?_)
        obtain rfl : v15 = (nI q8) := ev15.trans eq8
        refine lv_bipush (v := 16) hx hb dX7_slot_36 (by decide) ?_
        refine lv_icmp_ne (tgt := 45) hx hb dX7_slot_38 (by decide) (fun c16 => ?_) (fun c16 => ?_)
        · skip
          have hq16 : q8 < 16 := by rcases Nat.lt_or_ge q8 16 with z | z; exact z; exact absurd (by rw [show q8 = 16 by omega]; rfl) c16
          refine lv_iconst (v := 0) hx hb dX7_slot_45 (by decide) ?_
          refine zputi (ci := 7) (v := 0) (ty := .int) (C := RX7) (T := TX7) (N := 42) hx hb hts hi7 tyX7 tyX7_ok nmX7 hown hK hP hD hS hM.1 rfl rfl 0 (by decide) (hts (.fieldLink RX7 117 "LinClusterModel" "thrown" "I") (by decide +kernel)) (fun _ h9 => h9) rfl (by decide +kernel) rfl rfl (Nat.le_of_ble_eq_true rfl) rfl dX7_slot_46 (fun H locs hP hD hS => ?_)
          have hst := zC.pf hM hst (k := 0) (by decide) 0
          have kn17 := zpi_ff S mo 0 0 (i := 9) (by decide) eq8
          have hI := hI.ffree hM (k := 0) (by decide) 0
          have kn18 := zpi_s S mo 0 0
          refine lv_aload_n hx hb dX7_slot_49 rfl (lv_at hl 0 rfl) ?_
          refine zget (ci := 7) (C := RX7) (T := TX7) (N := 42) hx hb hts hi7 hown hK hP hM.1 rfl rfl 0 (by decide) (hts (.fieldLink RX7 117 "LinClusterModel" "thrown" "I") (by decide +kernel)) (fun _ h9 => h9) rfl dX7_slot_50 ?_
          refine lv_topi (fun v19 ev19 => ?_)
          obtain rfl : v19 = 0 := ev19.trans kn18
          refine lv_if_le (tgt := 58) hx hb dX7_slot_53 (by decide) (fun c20 => ?_) (fun c20 => ?_)
          · skip
            refine lv_aload_n hx hb dX7_slot_58 rfl (lv_at hl 0 rfl) ?_
            refine zget (ci := 7) (C := RX7) (T := TX7) (N := 42) hx hb hts hi7 hown hK hP hM.1 rfl rfl 10 (by decide) (hts (.fieldLink RX7 35 "LinClusterModel" "slotIds" "[I") (by decide +kernel)) (fun _ h9 => h9) (v := .ref (ad 10)) (congrArg (fun z => some (va_rf z)) (((hM.eq hst.1).2.1 10 (by decide)).1)) dX7_slot_59 ?_
            refine lv_aload_n hx hb dX7_slot_62 rfl (lv_at hl 0 rfl) ?_
            refine zget (ci := 7) (C := RX7) (T := TX7) (N := 42) hx hb hts hi7 hown hK hP hM.1 rfl rfl 9 (by decide) (hts (.fieldLink RX7 134 "LinClusterModel" "slots" "I") (by decide +kernel)) (fun _ h9 => h9) rfl dX7_slot_63 ?_
            refine lv_topi (fun v21 ev21 => ?_)
            obtain rfl : v21 = (nI q8) := ev21.trans kn17
            refine lv_iload_n hx hb dX7_slot_66 rfl (lv_at hl 1 rfl) ?_
            refine ziast (x := (nI i8)) hx hb hK hP hD hS (hM.2.1 10 (by decide)).2.1 (show G.2.2 (ad 10) = 16 from (hM.2.1 10 (by decide)).2.2) (vp_in_nI (n := q8) (N := 16) (by omega) (by omega)) dX7_slot_67 (fun H locs hP hD hS => ?_)
            rw [(nI_clamp (n := q8) (by omega))] at hP hD
            have hst := zC.pa hM hst (k := 10) (by decide) (by decide) q8 (nI i8)
            have kn22 := zpi_af hM (zpi S mo 0 0) (k := 10) (by decide) q8 (nI i8) (i := 9) kn17
            have kn23 := zpi_af hM (zpi S mo 0 0) (k := 10) (by decide) q8 (nI i8) (i := 0) kn18
            have hI := hI.free hM (k := 10) (by decide) (by decide) q8 (nI i8)
            have kn24 := zpi_s (zpi S mo 0 0) (ad 10) q8 (nI i8)
            refine lv_aload_n hx hb dX7_slot_68 rfl (lv_at hl 0 rfl) ?_
            refine zget (ci := 7) (C := RX7) (T := TX7) (N := 42) hx hb hts hi7 hown hK hP hM.1 rfl rfl 11 (by decide) (hts (.fieldLink RX7 38 "LinClusterModel" "slotBits" "[I") (by decide +kernel)) (fun _ h9 => h9) (v := .ref (ad 11)) (congrArg (fun z => some (va_rf z)) (((hM.eq hst.1).2.1 11 (by decide)).1)) dX7_slot_69 ?_
            refine lv_aload_n hx hb dX7_slot_72 rfl (lv_at hl 0 rfl) ?_
            refine zget (ci := 7) (C := RX7) (T := TX7) (N := 42) hx hb hts hi7 hown hK hP hM.1 rfl rfl 9 (by decide) (hts (.fieldLink RX7 134 "LinClusterModel" "slots" "I") (by decide +kernel)) (fun _ h9 => h9) rfl dX7_slot_73 ?_
            refine lv_topi (fun v25 ev25 => ?_)
            obtain rfl : v25 = (nI q8) := ev25.trans kn22
            refine lv_iload_n hx hb dX7_slot_76 rfl (lv_at hl 2 rfl) ?_
            refine ziast (x := b) hx hb hK hP hD hS (hM.2.1 11 (by decide)).2.1 (show G.2.2 (ad 11) = 16 from (hM.2.1 11 (by decide)).2.2) (vp_in_nI (n := q8) (N := 16) (by omega) (by omega)) dX7_slot_77 (fun H locs hP hD hS => ?_)
            rw [(nI_clamp (n := q8) (by omega))] at hP hD
            have hst := zC.pa hM hst (k := 11) (by decide) (by decide) q8 b
            have kn26 := zpi_af hM (zpi (zpi S mo 0 0) (ad 10) q8 (nI i8)) (k := 11) (by decide) q8 b (i := 9) kn22
            have kn27 := zpi_af hM (zpi (zpi S mo 0 0) (ad 10) q8 (nI i8)) (k := 11) (by decide) q8 b (i := 0) kn23
            have kn28 := zpi_o hM (zpi (zpi S mo 0 0) (ad 10) q8 (nI i8)) (i := 10) (k := 11) (by decide) (by decide) (by decide) q8 b kn24
            have hI := hI.free hM (k := 11) (by decide) (by decide) q8 b
            have kn29 := zpi_s (zpi (zpi S mo 0 0) (ad 10) q8 (nI i8)) (ad 11) q8 b
            refine lv_aload_n hx hb dX7_slot_78 rfl (lv_at hl 0 rfl) ?_
            refine lv_dup hx hb dX7_slot_79 rfl ?_
            refine zget (ci := 7) (C := RX7) (T := TX7) (N := 42) hx hb hts hi7 hown hK hP hM.1 rfl rfl 9 (by decide) (hts (.fieldLink RX7 134 "LinClusterModel" "slots" "I") (by decide +kernel)) (fun _ h9 => h9) rfl dX7_slot_80 ?_
            refine lv_topi (fun v30 ev30 => ?_)
            obtain rfl : v30 = (nI q8) := ev30.trans kn26
            refine lv_iconst (v := 1) hx hb dX7_slot_83 (by decide) ?_
            refine lv_iadd hx hb dX7_slot_84 ?_
            refine lv_topi (fun v31 ev31 => ?_)
            obtain rfl : v31 = nI (q8 + 1) := ev31.trans (nI_add q8 1)
            refine zputi (ci := 7) (v := (nI (q8 + 1))) (ty := .int) (C := RX7) (T := TX7) (N := 42) hx hb hts hi7 tyX7 tyX7_ok nmX7 hown hK hP hD hS hM.1 rfl rfl 9 (by decide) (hts (.fieldLink RX7 134 "LinClusterModel" "slots" "I") (by decide +kernel)) (fun _ h9 => h9) rfl (by decide +kernel) rfl rfl (Nat.le_of_ble_eq_true rfl) rfl dX7_slot_85 (fun H locs hP hD hS => ?_)
            have hst := zC.pf hM hst (k := 9) (by decide) (nI (q8 + 1))
            have kn32 := zpi_ff (zpi (zpi (zpi S mo 0 0) (ad 10) q8 (nI i8)) (ad 11) q8 b) mo 9 (nI (q8 + 1)) (i := 0) (by decide) kn27
            have kn33 := zpi_f hM (zpi (zpi (zpi S mo 0 0) (ad 10) q8 (nI i8)) (ad 11) q8 b) (i := 10) (by decide) 9 (nI (q8 + 1)) kn28
            have kn34 := zpi_f hM (zpi (zpi (zpi S mo 0 0) (ad 10) q8 (nI i8)) (ad 11) q8 b) (i := 11) (by decide) 9 (nI (q8 + 1)) kn29
            have hI := hI.slots hM (q := q8 + 1) (by omega)
            have kn35 := zpi_s (zpi (zpi (zpi S mo 0 0) (ad 10) q8 (nI i8)) (ad 11) q8 b) mo 9 (nI (q8 + 1))
            refine lv_aload_n hx hb dX7_slot_88 rfl (lv_at hl 0 rfl) ?_
            refine zget (ci := 7) (C := RX7) (T := TX7) (N := 42) hx hb hts hi7 hown hK hP hM.1 rfl rfl 9 (by decide) (hts (.fieldLink RX7 134 "LinClusterModel" "slots" "I") (by decide +kernel)) (fun _ h9 => h9) rfl dX7_slot_89 ?_
            refine lv_topi (fun v36 ev36 => ?_)
            obtain rfl : v36 = (nI (q8 + 1)) := ev36.trans kn35
            refine lv_iconst (v := 1) hx hb dX7_slot_92 (by decide) ?_
            refine lv_isub hx hb dX7_slot_93 ?_
            refine lv_topi (fun v37 ev37 => ?_)
            exact W.iret (v := v37) hx hb hr (fun t ht hW => ⟨⟨v37, (zpi (zpi (zpi (zpi S mo 0 0) (ad 10) q8 (nI i8)) (ad 11) q8 b) mo 9 (nI (q8 + 1))), rfl, ⟨⟨hst, hI⟩, ⟨_, zmo1 hi8 hth8, by rw [kn32]; show (0 : Int32) = (if _ then _ else if _ then _ else _ : Int32); rw [if_neg (fun z9 => z9.elim (zii1 hr7 c8).1 (fun z8 => z8 (Int32.not_lt.mp (zii1 hr7 c8).2))), if_neg (fun z9 => z9.elim (fun z8 => c10 (by rw [ev9]; exact z8)) (fun z8 => z8 (by rw [eq8]; exact nI_lt (a := q8) (b := 16) (by omega) (by omega))))], fun _ => ⟨by rw [eq8, ev37]; exact nI_pred q8, by rw [eq8, nI_1]; exact kn35⟩, fun z9 => absurd kn32 z9⟩⟩, by rw [ht]; exact hP, va_K.moved hW.alike hK, hD⟩, hS.F ht⟩) hS.2.2 dX7_slot_94
          · exact absurd c20 (by decide)
        · skip
          refine lv_iconst (v := 2) hx hb dX7_slot_41 (by decide) ?_
          refine lv_goto (tgt := 46) hx hb dX7_slot_42 (by decide) ?_
          refine zputi (ci := 7) (v := 2) (ty := .int) (C := RX7) (T := TX7) (N := 42) hx hb hts hi7 tyX7 tyX7_ok nmX7 hown hK hP hD hS hM.1 rfl rfl 0 (by decide) (hts (.fieldLink RX7 117 "LinClusterModel" "thrown" "I") (by decide +kernel)) (fun _ h9 => h9) rfl (by decide +kernel) rfl rfl (Nat.le_of_ble_eq_true rfl) rfl dX7_slot_46 (fun H locs hP hD hS => ?_)
          have hst := zC.pf hM hst (k := 0) (by decide) 2
          have kn38 := zpi_ff S mo 0 2 (i := 9) (by decide) eq8
          have hI := hI.ffree hM (k := 0) (by decide) 2
          have kn39 := zpi_s S mo 0 2
          refine lv_aload_n hx hb dX7_slot_49 rfl (lv_at hl 0 rfl) ?_
          refine zget (ci := 7) (C := RX7) (T := TX7) (N := 42) hx hb hts hi7 hown hK hP hM.1 rfl rfl 0 (by decide) (hts (.fieldLink RX7 117 "LinClusterModel" "thrown" "I") (by decide +kernel)) (fun _ h9 => h9) rfl dX7_slot_50 ?_
          refine lv_topi (fun v40 ev40 => ?_)
          obtain rfl : v40 = 2 := ev40.trans kn39
          refine lv_if_le (tgt := 58) hx hb dX7_slot_53 (by decide) (fun c41 => ?_) (fun c41 => ?_)
          · exact absurd c41 (by decide)
          · skip
            refine lv_iconst (v := 0) hx hb dX7_slot_56 (by decide) ?_
            exact W.iret (v := 0) hx hb hr (fun t ht hW => ⟨⟨0, (zpi S mo 0 2), rfl, ⟨⟨hst, hI⟩, ⟨_, zmo1 hi8 hth8, by rw [kn39]; show (2 : Int32) = (if _ then _ else if _ then _ else _ : Int32); rw [if_neg (fun z9 => z9.elim (zii1 hr7 c8).1 (fun z8 => z8 (Int32.not_lt.mp (zii1 hr7 c8).2))), if_pos (Or.inr (by rw [eq8, c16]; decide))], fun z9 => absurd (kn39.symm.trans z9) (by decide), fun _ => by rw [zpi_ff S mo 0 2 (by decide) rfl]⟩⟩, by rw [ht]; exact hP, va_K.moved hW.alike hK, hD⟩, hS.F ht⟩) hS.2.2 dX7_slot_57
    · skip
      refine lv_iconst (v := 1) hx hb dX7_slot_21 (by decide) ?_
      refine lv_goto (tgt := 46) hx hb dX7_slot_22 (by decide) ?_
      refine zputi (ci := 7) (v := 1) (ty := .int) (C := RX7) (T := TX7) (N := 42) hx hb hts hi7 tyX7 tyX7_ok nmX7 hown hK hP hD hS hM.1 rfl rfl 0 (by decide) (hts (.fieldLink RX7 117 "LinClusterModel" "thrown" "I") (by decide +kernel)) (fun _ h9 => h9) rfl (by decide +kernel) rfl rfl (Nat.le_of_ble_eq_true rfl) rfl dX7_slot_46 (fun H locs hP hD hS => ?_)
      have hst := zC.pf hM hst (k := 0) (by decide) 1
      have kn42 := zpi_ff S mo 0 1 (i := 9) (by decide) eq8
      have hI := hI.ffree hM (k := 0) (by decide) 1
      have kn43 := zpi_s S mo 0 1
      refine lv_aload_n hx hb dX7_slot_49 rfl (lv_at hl 0 rfl) ?_
      refine zget (ci := 7) (C := RX7) (T := TX7) (N := 42) hx hb hts hi7 hown hK hP hM.1 rfl rfl 0 (by decide) (hts (.fieldLink RX7 117 "LinClusterModel" "thrown" "I") (by decide +kernel)) (fun _ h9 => h9) rfl dX7_slot_50 ?_
      refine lv_topi (fun v44 ev44 => ?_)
      obtain rfl : v44 = 1 := ev44.trans kn43
      refine lv_if_le (tgt := 58) hx hb dX7_slot_53 (by decide) (fun c45 => ?_) (fun c45 => ?_)
      · exact absurd c45 (by decide)
      · skip
        refine lv_iconst (v := 0) hx hb dX7_slot_56 (by decide) ?_
        exact W.iret (v := 0) hx hb hr (fun t ht hW => ⟨⟨0, (zpi S mo 0 1), rfl, ⟨⟨hst, hI⟩, ⟨_, zmo1 hi8 hth8, by rw [kn43]; exact (if_pos ((zii0 hr7 c8).imp (fun q => q) Int32.not_le.mpr)).symm, fun z9 => absurd (kn43.symm.trans z9) (by decide), fun _ => by rw [zpi_ff S mo 0 1 (by decide) rfl]⟩⟩, by rw [ht]; exact hP, va_K.moved hW.alike hK, hD⟩, hS.F ht⟩) hS.2.2 dX7_slot_57
set_option maxHeartbeats 4000000 in
set_option maxRecDepth 100000 in
theorem c_X7_run (l : Launch) (dC : Nat → ClassId) (dI : Nat → Nat → Nat) (cy : Nat → ClassId) (G : zG) (S : zS) (sz : Nat) (mo : Nat) (ad : Nat → Nat) (v : Int32) (hM : zM G S mo ad) (hI : zI mo ad S) : Met l yX7_run wsX7_run ({ frames := 6, cells := 0, slots := 0, locals := 137 }) (zP dC dI cy [.ref mo, .int v] G S sz) (va_Qi (fun (r : Int32) S' => (zC mo ad [7, 8, 16, 17, 18, 19, 20, 21, 22, 23, 24, 25, 26, 27, 28, 29, 30, 31, 32, 38, 39, 40] [0, 33, 34, 35, 36, 37, 41] S S' ∧ zI mo ad S') ∧ S'.1 mo 0 = kRun (S.1 mo 33) v ∧ (S'.1 mo 0 = 0 → r = S.1 mo 33 + v ∧ S'.1 mo 33 = S.1 mo 33 + v ∧ ¬ S'.1 mo 33 ≤ 0) ∧ (¬ S'.1 mo 0 = 0 → S'.1 mo 33 = S.1 mo 33 ∧ S'.1 (ad 16) = S.1 (ad 16))) (zB dC dI cy (zA cy G S sz) G) (zA cy G S sz)) 0 0 (zA cy G S sz) := by
  refine Met.ofW (cc := cX7_run) (maxL := 3) (ret := (some .int)) (by decide) rfl ?_
  intro p e s m args below meth c s₁ B hml hv
  obtain ⟨rfl, hsz, hP, hK, hD0, hN⟩ := hv
  have hx := B.exec
  have hb := B.bytes
  have hr := B.returns
  have hts := atoms_spec (ws := wsX7_run) B.pre
  have hown : s.vm.findClass RX7 = some m.cls := findClass_of_methodNamed B.named
  have hlocks := B.notSynchronized
  subst hsz
  have hD : va_D (zA cy G S s.heap.size) (zW cy G S) := hD0.self
  generalize hAe : zA cy G S s.heap.size = A at hD ⊢
  have hA : ∀ q : Nat, s.heap.size ≤ q → A q := fun q h => by rw [← hAe]; exact Or.inr h
  have hS : va_S A s.heap s.heap [] := va_S.rf
  have hst := zC.refl mo ad [7, 8, 16, 17, 18, 19, 20, 21, 22, 23, 24, 25, 26, 27, 28, 29, 30, 31, 32, 38, 39, 40] [0, 33, 34, 35, 36, 37, 41] S
  have hl := lv_entry ([.ref mo, .int v]) (n := 3) (Nat.le_of_ble_eq_true rfl)
  rw [lg_entry_eq]
  generalize (lg_sl ([.ref mo, .int v]) ++ List.replicate (3 - (lg_sl ([.ref mo, .int v])).length) Slot.unset).toArray = ls at hl ⊢
  have hl : lv_has ls 3 [(0, .ref mo), (1, .int v)] := hl
  have hi7 : ∀ w ∈ wsX70, w ∈ wsX7_run := by decide +kernel
  obtain ⟨t8, hlt8, ht8⟩ := hI.2.2.1
  refine lv_aload_n hx hb dX7_run_0 rfl (lv_at hl 0 rfl) ?_
  refine lv_iload_n hx hb dX7_run_1 rfl (lv_at hl 1 rfl) ?_
  refine lv_iconst (v := 1) hx hb dX7_run_2 (by decide) ?_
  refine lv_sipush (v := 2000) hx hb dX7_run_3 (by decide) ?_
  refine vp_callSi (va_Run.run (va_runS (As := [.int v, .int 1, .int 2000]) (rest := [.ref mo]) ⟨hx, hb, hml, hown, hts⟩ (c_X7_isIn l v 1 2000) (va_cwS 3 hts gX7_run_X7_isIn rfl rfl rfl (by decide +kernel) ⟨Nat.le_of_ble_eq_true rfl, Nat.le_of_ble_eq_true rfl⟩) zpreS0 rfl rfl hl.1 rfl (lv_room (Nat.le_of_ble_eq_true rfl)) dX7_run_6 ⟨Nat.le_of_ble_eq_true rfl, Nat.le_of_ble_eq_true rfl⟩)) (fun r1 hr1 => ?_)
  refine lv_if_ne (tgt := 16) hx hb dX7_run_9 (by decide) (fun c2 => ?_) (fun c2 => ?_)
  · skip
    refine lv_aload_n hx hb dX7_run_16 rfl (lv_at hl 0 rfl) ?_
    refine zget (ci := 7) (C := RX7) (T := TX7) (N := 42) hx hb hts hi7 hown hK hP hM.1 rfl rfl 33 (by decide) (hts (.fieldLink RX7 128 "LinClusterModel" "time" "I") (by decide +kernel)) (fun _ h9 => h9) rfl dX7_run_17 ?_
    refine lv_topi (fun v3 ev3 => ?_)
    obtain rfl : v3 = (nI t8) := ev3.trans ht8
    refine lv_iload_n hx hb dX7_run_20 rfl (lv_at hl 1 rfl) ?_
    refine lv_iadd hx hb dX7_run_21 ?_
    refine lv_topi (fun v4 ev4 => ?_)
    refine lv_ldc (v := 200000) hx hb hown (hts (.constant RX7 140 200000) (by decide +kernel)) dX7_run_22 ?_
    refine lv_icmp_le (tgt := 31) hx hb dX7_run_24 (by decide) (fun c5 => ?_) (fun c5 => ?_)
    · skip
      refine lv_iconst (v := 0) hx hb dX7_run_31 (by decide) ?_
      refine zputi (ci := 7) (v := 0) (ty := .int) (C := RX7) (T := TX7) (N := 42) hx hb hts hi7 tyX7 tyX7_ok nmX7 hown hK hP hD hS hM.1 rfl rfl 0 (by decide) (hts (.fieldLink RX7 117 "LinClusterModel" "thrown" "I") (by decide +kernel)) (fun _ h9 => h9) rfl (by decide +kernel) rfl rfl (Nat.le_of_ble_eq_true rfl) rfl dX7_run_32 (fun H locs hP hD hS => ?_)
      have hst := zC.pf hM hst (k := 0) (by decide) 0
      have kn6 := zpi_ff S mo 0 0 (i := 33) (by decide) ht8
      have hI := hI.ffree hM (k := 0) (by decide) 0
      have kn7 := zpi_s S mo 0 0
      refine lv_aload_n hx hb dX7_run_35 rfl (lv_at hl 0 rfl) ?_
      refine zget (ci := 7) (C := RX7) (T := TX7) (N := 42) hx hb hts hi7 hown hK hP hM.1 rfl rfl 0 (by decide) (hts (.fieldLink RX7 117 "LinClusterModel" "thrown" "I") (by decide +kernel)) (fun _ h9 => h9) rfl dX7_run_36 ?_
      refine lv_topi (fun v8 ev8 => ?_)
      obtain rfl : v8 = 0 := ev8.trans kn7
      refine lv_if_le (tgt := 44) hx hb dX7_run_39 (by decide) (fun c9 => ?_) (fun c9 => ?_)
      · skip
        refine lv_iconst (v := 0) hx hb dX7_run_44 (by decide) ?_
        refine lv_istore_n (lv' := [(2, .int 0), (0, .ref mo), (1, .int v)]) hx hb dX7_run_45 rfl hl (by decide) rfl (fun ls hl => ?_)
        obtain ⟨N8, hN8, rfl⟩ := nI_of2 (M := 2000) (n := 2000) (x := v) (by decide) (fun z9 => (zii1 hr1 c2).1 (Int32.lt_of_lt_of_le z9 (by decide))) (Int32.not_lt.mp (zii1 hr1 c2).2)
        have hsum9 : t8 + N8 ≤ 200000 := (nI_leI (a := t8 + N8) (b := 200000) (by omega) (by omega)).mp (by have z9 := c5; rw [ev4, nI_add] at z9; exact z9)
        refine zloopW N8 (fun k9 (_ : Unit) => [(0, .ref mo), (1, .int (nI N8)), (2, .int (nI k9))]) (fun k9 S' => zC mo ad [7, 8, 16, 17, 18, 19, 20, 21, 22, 23, 24, 25, 26, 27, 28, 29, 30, 31, 32, 38, 39, 40] [0, 33, 34, 35, 36, 37, 41] S S' ∧ zI mo ad S' ∧ S'.1 mo 33 = nI (t8 + k9) ∧ S'.1 mo 0 = 0) ?_ ?_ N8 0 () (zpi S mo 0 0) H locs ls (Nat.zero_add _) ⟨hst, hI, kn6, kn7⟩ hP hD hS (lv_sub hl [1, 2, 0] rfl)
        · intro x9 S9 H locs ls hJ9 hP hD hS hl
          obtain ⟨hst, hI, kt9, k09⟩ := hJ9
          have hl : lv_has ls 3 [(0, .ref mo), (1, .int (nI N8)), (2, .int (nI N8))] := hl
          refine lv_iload_n hx hb dX7_run_46 rfl (lv_at hl 2 rfl) ?_
          refine lv_iload_n hx hb dX7_run_47 rfl (lv_at hl 1 rfl) ?_
          refine lv_icmp_ge (tgt := 61) hx hb dX7_run_48 (by decide) (fun c10 => ?_) (fun c10 => ?_)
          · skip
            refine lv_aload_n hx hb dX7_run_61 rfl (lv_at hl 0 rfl) ?_
            refine zget (ci := 7) (C := RX7) (T := TX7) (N := 42) hx hb hts hi7 hown hK hP hM.1 rfl rfl 33 (by decide) (hts (.fieldLink RX7 128 "LinClusterModel" "time" "I") (by decide +kernel)) (fun _ h9 => h9) rfl dX7_run_62 ?_
            refine lv_topi (fun v11 ev11 => ?_)
            obtain rfl : v11 = (nI (t8 + N8)) := ev11.trans kt9
            exact W.iret (v := (nI (t8 + N8))) hx hb hr (fun t ht hW => ⟨⟨(nI (t8 + N8)), S9, rfl, ⟨⟨hst, hI⟩, ⟨by rw [k09]; unfold kRun; rw [if_neg (fun z9 => z9.elim (zii1 hr1 c2).1 (fun z8 => z8 (Int32.not_lt.mp (zii1 hr1 c2).2))), if_neg (fun z9 => z9 (by rw [ht8]; have z8 := c5; rw [ev4] at z8; exact z8))], fun _ => ⟨by rw [ht8, nI_add], by rw [ht8, nI_add]; exact kt9, by rw [kt9]; exact nI_nle (by have z9 := (zii1 hr1 c2).1; rcases Nat.eq_zero_or_pos N8 with q9 | q9; exact absurd (by rw [q9]; decide) z9; omega) (by omega)⟩, fun z9 => absurd k09 z9⟩⟩, by rw [ht]; exact hP, va_K.moved hW.alike hK, hD⟩, hS.F ht⟩) hS.2.2 dX7_run_65
          · exact absurd (nI_le (a := N8) (b := N8) (Nat.le_refl _) (by omega)) c10
        · intro n8 k9 x9 S9 H locs ls hk9 ih hJ9 hP hD hS hl
          obtain ⟨hst, hI, kt9, k09⟩ := hJ9
          have hl : lv_has ls 3 [(0, .ref mo), (1, .int (nI N8)), (2, .int (nI k9))] := hl
          refine lv_iload_n hx hb dX7_run_46 rfl (lv_at hl 2 rfl) ?_
          refine lv_iload_n hx hb dX7_run_47 rfl (lv_at hl 1 rfl) ?_
          refine lv_icmp_ge (tgt := 61) hx hb dX7_run_48 (by decide) (fun c12 => ?_) (fun c12 => ?_)
          · exact absurd c12 (nI_ge (a := k9) (b := N8) (by omega) (by omega))
          · skip
            refine lv_aload_n hx hb dX7_run_51 rfl (lv_at hl 0 rfl) ?_
            refine zcallv (va_runV (As := []) (rest := []) ⟨hx, hb, hml, hown, hts⟩ (c_X7_bitTime l dC dI cy G S9 H.size mo ad (t8 + k9) (hM.eq hst.1) hI kt9 (by omega)) (cwV 0 hts gX7_run_X7_bitTime rfl rfl rfl (by decide +kernel) ⟨Nat.le_of_ble_eq_true rfl, Nat.le_of_ble_eq_true rfl⟩) (zpreV hK hP hD hN (zrecv7 hK hP hM.1)) rfl rfl hl.1 rfl (lv_room (Nat.le_of_ble_eq_true rfl)) dX7_run_52 ⟨Nat.le_of_ble_eq_true rfl, Nat.le_of_ble_eq_true rfl⟩) hS hD hA (fun S14 H locs hr13 hP hD hS => ?_)
            have hst := hst.trans (hr13.1.1.mono (by decide) (by decide))
            have hI := hr13.1.2
            have kn15 := (hr13.1.1.2.2 0 (by decide)).trans k09
            obtain ⟨v16, ev16⟩ : ∃ y : Int32, y = (nI k9) + 1 := ⟨_, rfl⟩
            refine lv_iinc (v := v16) (lv' := [(2, .int v16), (0, .ref mo), (1, .int (nI N8))]) hx hb dX7_run_55 hl (k := 2) rfl (by rw [ev16]; rfl) (by decide) rfl (fun ls hl => ?_)
            refine lv_goto (tgt := 46) hx hb dX7_run_58 (by decide) ?_
            have e9 : v16 = nI (k9 + 1) := by rw [ev16]; exact nI_1 k9
            rw [e9] at hl
            exact ih () S14 H locs ls ⟨hst, hI, by rw [hr13.2, Nat.add_assoc], kn15⟩ hP hD hS (lv_sub hl [1, 2, 0] rfl)
      · exact absurd c9 (by decide)
    · skip
      refine lv_iconst (v := 2) hx hb dX7_run_27 (by decide) ?_
      refine lv_goto (tgt := 32) hx hb dX7_run_28 (by decide) ?_
      refine zputi (ci := 7) (v := 2) (ty := .int) (C := RX7) (T := TX7) (N := 42) hx hb hts hi7 tyX7 tyX7_ok nmX7 hown hK hP hD hS hM.1 rfl rfl 0 (by decide) (hts (.fieldLink RX7 117 "LinClusterModel" "thrown" "I") (by decide +kernel)) (fun _ h9 => h9) rfl (by decide +kernel) rfl rfl (Nat.le_of_ble_eq_true rfl) rfl dX7_run_32 (fun H locs hP hD hS => ?_)
      have hst := zC.pf hM hst (k := 0) (by decide) 2
      have kn17 := zpi_ff S mo 0 2 (i := 33) (by decide) ht8
      have hI := hI.ffree hM (k := 0) (by decide) 2
      have kn18 := zpi_s S mo 0 2
      refine lv_aload_n hx hb dX7_run_35 rfl (lv_at hl 0 rfl) ?_
      refine zget (ci := 7) (C := RX7) (T := TX7) (N := 42) hx hb hts hi7 hown hK hP hM.1 rfl rfl 0 (by decide) (hts (.fieldLink RX7 117 "LinClusterModel" "thrown" "I") (by decide +kernel)) (fun _ h9 => h9) rfl dX7_run_36 ?_
      refine lv_topi (fun v19 ev19 => ?_)
      obtain rfl : v19 = 2 := ev19.trans kn18
      refine lv_if_le (tgt := 44) hx hb dX7_run_39 (by decide) (fun c20 => ?_) (fun c20 => ?_)
      · exact absurd c20 (by decide)
      · skip
        refine lv_iconst (v := 0) hx hb dX7_run_42 (by decide) ?_
        exact W.iret (v := 0) hx hb hr (fun t ht hW => ⟨⟨0, (zpi S mo 0 2), rfl, ⟨⟨hst, hI⟩, ⟨by rw [kn18]; unfold kRun; rw [if_neg (fun z9 => z9.elim (zii1 hr1 c2).1 (fun z8 => z8 (Int32.not_lt.mp (zii1 hr1 c2).2))), if_pos (fun z9 => c5 (by rw [ev4]; rw [ht8] at z9; exact z9))], fun z9 => absurd (kn18.symm.trans z9) (by decide), fun _ => ⟨by rw [zpi_ff S mo 0 2 (by decide) rfl], zpi_off S (hM.mo (i := 16) (by decide)) _ _⟩⟩⟩, by rw [ht]; exact hP, va_K.moved hW.alike hK, hD⟩, hS.F ht⟩) hS.2.2 dX7_run_43
  · skip
    refine lv_iconst (v := 1) hx hb dX7_run_12 (by decide) ?_
    refine lv_goto (tgt := 32) hx hb dX7_run_13 (by decide) ?_
    refine zputi (ci := 7) (v := 1) (ty := .int) (C := RX7) (T := TX7) (N := 42) hx hb hts hi7 tyX7 tyX7_ok nmX7 hown hK hP hD hS hM.1 rfl rfl 0 (by decide) (hts (.fieldLink RX7 117 "LinClusterModel" "thrown" "I") (by decide +kernel)) (fun _ h9 => h9) rfl (by decide +kernel) rfl rfl (Nat.le_of_ble_eq_true rfl) rfl dX7_run_32 (fun H locs hP hD hS => ?_)
    have hst := zC.pf hM hst (k := 0) (by decide) 1
    have kn21 := zpi_ff S mo 0 1 (i := 33) (by decide) ht8
    have hI := hI.ffree hM (k := 0) (by decide) 1
    have kn22 := zpi_s S mo 0 1
    refine lv_aload_n hx hb dX7_run_35 rfl (lv_at hl 0 rfl) ?_
    refine zget (ci := 7) (C := RX7) (T := TX7) (N := 42) hx hb hts hi7 hown hK hP hM.1 rfl rfl 0 (by decide) (hts (.fieldLink RX7 117 "LinClusterModel" "thrown" "I") (by decide +kernel)) (fun _ h9 => h9) rfl dX7_run_36 ?_
    refine lv_topi (fun v23 ev23 => ?_)
    obtain rfl : v23 = 1 := ev23.trans kn22
    refine lv_if_le (tgt := 44) hx hb dX7_run_39 (by decide) (fun c24 => ?_) (fun c24 => ?_)
    · exact absurd c24 (by decide)
    · skip
      refine lv_iconst (v := 0) hx hb dX7_run_42 (by decide) ?_
      exact W.iret (v := 0) hx hb hr (fun t ht hW => ⟨⟨0, (zpi S mo 0 1), rfl, ⟨⟨hst, hI⟩, ⟨by rw [kn22]; exact (if_pos ((zii0 hr1 c2).imp (fun q => q) Int32.not_le.mpr)).symm, fun z9 => absurd (kn22.symm.trans z9) (by decide), fun _ => ⟨by rw [zpi_ff S mo 0 1 (by decide) rfl], zpi_off S (hM.mo (i := 16) (by decide)) _ _⟩⟩⟩, by rw [ht]; exact hP, va_K.moved hW.alike hK, hD⟩, hS.F ht⟩) hS.2.2 dX7_run_43
