set_option maxHeartbeats 4000000 in
set_option maxRecDepth 100000 in
theorem c_X7_took (l : Launch) (dC : Nat → ClassId) (dI : Nat → Nat → Nat) (cy : Nat → ClassId) (G : zG) (S : zS) (sz : Nat) (mo : Nat) (ad : Nat → Nat) (n8 i8 : Nat) (hM : zM G S mo ad) (hI : zIx mo ad n8 S) (hn8 : n8 < 8) (hi8 : i8 < 62) : Met l yX7_took wsX7_took ({ frames := 2, cells := 0, slots := 0, locals := 43 }) (zP dC dI cy [.ref mo, .int (nI n8), .int (nI i8)] G S sz) (va_Qv (fun S' => (zC mo ad [7, 8, 16, 17, 20, 21] [34] S S') ∧ zI mo ad S') (zB dC dI cy (zA cy G S sz) G) (zA cy G S sz)) 0 0 (zA cy G S sz) := by
  refine Met.ofW (cc := cX7_took) (maxL := 6) (ret := none) (by decide) rfl ?_
  intro p e s m args below meth c s₁ B hml hv
  obtain ⟨rfl, hsz, hP, hK, hD0, hN⟩ := hv
  have hx := B.exec
  have hb := B.bytes
  have hr := B.returns
  have hts := atoms_spec (ws := wsX7_took) B.pre
  have hown : s.vm.findClass RX7 = some m.cls := findClass_of_methodNamed B.named
  have hlocks := B.notSynchronized
  subst hsz
  have hD : va_D (zA cy G S s.heap.size) (zW cy G S) := hD0.self
  generalize hAe : zA cy G S s.heap.size = A at hD ⊢
  have hA : ∀ q : Nat, s.heap.size ≤ q → A q := fun q h => by rw [← hAe]; exact Or.inr h
  have hS : va_S A s.heap s.heap [] := va_S.rf
  have hst := zC.refl mo ad [7, 8, 16, 17, 20, 21] [34] S
  have hl := lv_entry ([.ref mo, .int (nI n8), .int (nI i8)]) (n := 6) (Nat.le_of_ble_eq_true rfl)
  rw [lg_entry_eq]
  generalize (lg_sl ([.ref mo, .int (nI n8), .int (nI i8)]) ++ List.replicate (6 - (lg_sl ([.ref mo, .int (nI n8), .int (nI i8)])).length) Slot.unset).toArray = ls at hl ⊢
  have hl : lv_has ls 6 [(0, .ref mo), (1, .int (nI n8)), (2, .int (nI i8))] := hl
  have hi7 : ∀ w ∈ wsX70, w ∈ wsX7_took := by decide +kernel
  refine lv_aload_n hx hb dX7_took_0 rfl (lv_at hl 0 rfl) ?_
  refine zget (ci := 7) (C := RX7) (T := TX7) (N := 42) hx hb hts hi7 hown hK hP hM.1 rfl rfl 16 (by decide) (hts (.fieldLink RX7 53 "LinClusterModel" "at" "[I") (by decide +kernel)) (fun _ h9 => h9) (v := .ref (ad 16)) (congrArg (fun z => some (va_rf z)) (((hM.eq hst.1).2.1 16 (by decide)).1)) dX7_took_1 ?_
  refine lv_iload_n hx hb dX7_took_4 rfl (lv_at hl 1 rfl) ?_
  refine lv_iconst (v := 1) hx hb dX7_took_5 (by decide) ?_
  refine ziast (x := 1) hx hb hK hP hD hS (hM.2.1 16 (by decide)).2.1 (show G.2.2 (ad 16) = 8 from (hM.2.1 16 (by decide)).2.2) (vp_in_nI (n := n8) (N := 8) (by omega) (by omega)) dX7_took_6 (fun H locs hP hD hS => ?_)
  rw [(nI_clamp (n := n8) (by omega))] at hP hD
  have hst := zC.pa hM hst (k := 16) (by decide) (by decide) n8 1
  have hI := hI.at hM (v := 1) (by decide) (by decide)
  have kn1 := zpi_s S (ad 16) n8 1
  refine lv_aload_n hx hb dX7_took_7 rfl (lv_at hl 0 rfl) ?_
  refine zget (ci := 7) (C := RX7) (T := TX7) (N := 42) hx hb hts hi7 hown hK hP hM.1 rfl rfl 2 (by decide) (hts (.fieldLink RX7 13 "LinClusterModel" "lengths" "[I") (by decide +kernel)) (fun _ h9 => h9) (v := .ref (ad 2)) (congrArg (fun z => some (va_rf z)) (((hM.eq hst.1).2.1 2 (by decide)).1)) dX7_took_8 ?_
  refine lv_iload_n hx hb dX7_took_11 rfl (lv_at hl 2 rfl) ?_
  refine ziald hx hb hK hP (hM.2.1 2 (by decide)).2.1 (show G.2.2 (ad 2) = 62 from (hM.2.1 2 (by decide)).2.2) (vp_in_nI (n := i8) (N := 62) (by omega) (by omega)) dX7_took_12 ?_
  refine lv_topi (fun v2 ev2 => ?_)
  rw [(nI_clamp (n := i8) (by omega))] at ev2
  obtain ⟨L8, hL8, eL8⟩ := hI.len hi8
  obtain rfl : v2 = nI L8 := ev2.trans eL8
  refine lv_istore_n (lv' := [(3, .int (nI L8)), (0, .ref mo), (1, .int (nI n8)), (2, .int (nI i8))]) hx hb dX7_took_13 rfl hl (by decide) rfl (fun ls hl => ?_)
  refine lv_aload_n hx hb dX7_took_14 rfl (lv_at hl 1 rfl) ?_
  refine zget (ci := 7) (C := RX7) (T := TX7) (N := 42) hx hb hts hi7 hown hK hP hM.1 rfl rfl 29 (by decide) (hts (.fieldLink RX7 92 "LinClusterModel" "row" "[I") (by decide +kernel)) (fun _ h9 => h9) (v := .ref (ad 29)) (congrArg (fun z => some (va_rf z)) (((hM.eq hst.1).2.1 29 (by decide)).1)) dX7_took_15 ?_
  refine lv_bipush (v := 16) hx hb dX7_took_18 (by decide) ?_
  refine lv_iload_n hx hb dX7_took_20 rfl (lv_at hl 2 rfl) ?_
  refine lv_imul hx hb dX7_took_21 ?_
  refine lv_topi (fun v3 ev3 => ?_)
  obtain rfl : v3 = nI (16 * n8) := ev3.trans (pk_mul 16 n8)
  refine lv_iload_n hx hb dX7_took_22 rfl (lv_at hl 0 rfl) ?_
  refine lv_aload_n hx hb dX7_took_23 rfl (lv_at hl 1 rfl) ?_
  refine lv_iload_n hx hb dX7_took_24 rfl (lv_at hl 3 rfl) ?_
  refine vp_callSi (va_Run.run (va_runV (As := [.int (nI i8)]) (rest := [.int (nI L8), .int (nI (16 * n8)), .ref (ad 29)]) ⟨hx, hb, hml, hown, hts⟩ (c_X7_isEnhanced l dC dI cy G (zpi S (ad 16) n8 1) H.size mo ad i8 (hM.eq hst.1) (by omega)) (cwV 1 hts gX7_took_X7_isEnhanced rfl rfl rfl (by decide +kernel) ⟨Nat.le_of_ble_eq_true rfl, Nat.le_of_ble_eq_true rfl⟩) (zpreV hK hP hD hN (zrecv7 hK hP hM.1)) rfl rfl hl.1 rfl (lv_room (Nat.le_of_ble_eq_true rfl)) dX7_took_25 ⟨Nat.le_of_ble_eq_true rfl, Nat.le_of_ble_eq_true rfl⟩)) (fun r4 hr4 => ?_)
  refine lv_if_eq (tgt := 38) hx hb dX7_took_28 (by decide) (fun c5 => ?_) (fun c5 => ?_)
  · skip
    refine lv_iconst (v := 0) hx hb dX7_took_38 (by decide) ?_
    refine vp_callSi (va_Run.run (va_runS (As := [.ref (ad 29), .int (nI (16 * n8)), .int (nI L8), .int 0]) (rest := []) ⟨hx, hb, hml, hown, hts⟩ (c_X7_checksum l dC dI cy G (zpi S (ad 16) n8 1) H.size (ad 29) (16 * n8) L8 128 0 (hM.2.1 29 (by decide)).2.1 (show G.2.2 (ad 29) = 128 from (hM.2.1 29 (by decide)).2.2) (by omega) (by omega)) (va_cwS 4 hts gX7_took_X7_checksum rfl rfl rfl (by decide +kernel) ⟨Nat.le_of_ble_eq_true rfl, Nat.le_of_ble_eq_true rfl⟩) (zpreS hK hP hD hN) rfl rfl hl.1 rfl (lv_room (Nat.le_of_ble_eq_true rfl)) dX7_took_39 ⟨Nat.le_of_ble_eq_true rfl, Nat.le_of_ble_eq_true rfl⟩)) (fun r6 hr6 => ?_)
    refine lv_aload_n hx hb dX7_took_42 rfl (lv_at hl 1 rfl) ?_
    refine zget (ci := 7) (C := RX7) (T := TX7) (N := 42) hx hb hts hi7 hown hK hP hM.1 rfl rfl 29 (by decide) (hts (.fieldLink RX7 92 "LinClusterModel" "row" "[I") (by decide +kernel)) (fun _ h9 => h9) (v := .ref (ad 29)) (congrArg (fun z => some (va_rf z)) (((hM.eq hst.1).2.1 29 (by decide)).1)) dX7_took_43 ?_
    refine lv_bipush (v := 16) hx hb dX7_took_46 (by decide) ?_
    refine lv_iload_n hx hb dX7_took_48 rfl (lv_at hl 2 rfl) ?_
    refine lv_imul hx hb dX7_took_49 ?_
    refine lv_topi (fun v7 ev7 => ?_)
    obtain rfl : v7 = nI (16 * n8) := ev7.trans (pk_mul 16 n8)
    refine lv_iload_n hx hb dX7_took_50 rfl (lv_at hl 0 rfl) ?_
    refine lv_iadd hx hb dX7_took_51 ?_
    refine lv_topi (fun v8 ev8 => ?_)
    obtain rfl : v8 = nI ((16 * n8) + L8) := ev8.trans (nI_add (16 * n8) L8)
    refine ziald hx hb hK hP (hM.2.1 29 (by decide)).2.1 (show G.2.2 (ad 29) = 128 from (hM.2.1 29 (by decide)).2.2) (vp_in_nI (n := ((16 * n8) + L8)) (N := 128) (by omega) (by omega)) dX7_took_52 ?_
    refine lv_topi (fun v9 ev9 => ?_)
    rw [(nI_clamp (n := ((16 * n8) + L8)) (by omega))] at ev9
    refine lv_icmp_eq (tgt := 62) hx hb dX7_took_53 (by decide) (fun c10 => ?_) (fun c10 => ?_)
    · skip
      refine lv_aload_n hx hb dX7_took_62 rfl (lv_at hl 1 rfl) ?_
      refine zget (ci := 7) (C := RX7) (T := TX7) (N := 42) hx hb hts hi7 hown hK hP hM.1 rfl rfl 20 (by decide) (hts (.fieldLink RX7 65 "LinClusterModel" "taken" "[I") (by decide +kernel)) (fun _ h9 => h9) (v := .ref (ad 20)) (congrArg (fun z => some (va_rf z)) (((hM.eq hst.1).2.1 20 (by decide)).1)) dX7_took_63 ?_
      refine lv_iload_n hx hb dX7_took_66 rfl (lv_at hl 2 rfl) ?_
      refine lv_dup2_11 hx hb dX7_took_67 rfl rfl ?_
      refine ziald hx hb hK hP (hM.2.1 20 (by decide)).2.1 (show G.2.2 (ad 20) = 8 from (hM.2.1 20 (by decide)).2.2) (vp_in_nI (n := n8) (N := 8) (by omega) (by omega)) dX7_took_68 ?_
      refine lv_topi (fun v11 ev11 => ?_)
      rw [(nI_clamp (n := n8) (by omega))] at ev11
      refine lv_iconst (v := 1) hx hb dX7_took_69 (by decide) ?_
      refine lv_iadd hx hb dX7_took_70 ?_
      refine lv_topi (fun v12 ev12 => ?_)
      refine ziast (x := v12) hx hb hK hP hD hS (hM.2.1 20 (by decide)).2.1 (show G.2.2 (ad 20) = 8 from (hM.2.1 20 (by decide)).2.2) (vp_in_nI (n := n8) (N := 8) (by omega) (by omega)) dX7_took_71 (fun H locs hP hD hS => ?_)
      rw [(nI_clamp (n := n8) (by omega))] at hP hD
      have hst := zC.pa hM hst (k := 20) (by decide) (by decide) n8 v12
      have kn13 := zpi_o hM (zpi S (ad 16) n8 1) (i := 16) (k := 20) (by decide) (by decide) (by decide) n8 v12 kn1
      have hI := hI.free hM (k := 20) (by decide) (by decide) n8 v12
      have kn14 := zpi_s (zpi S (ad 16) n8 1) (ad 20) n8 v12
      refine lv_bipush (v := 62) hx hb dX7_took_72 (by decide) ?_
      refine lv_iload_n hx hb dX7_took_74 rfl (lv_at hl 2 rfl) ?_
      refine lv_imul hx hb dX7_took_75 ?_
      refine lv_topi (fun v15 ev15 => ?_)
      obtain rfl : v15 = nI (62 * n8) := ev15.trans (pk_mul 62 n8)
      refine lv_iload_n hx hb dX7_took_76 rfl (lv_at hl 3 rfl) ?_
      refine lv_iadd hx hb dX7_took_77 ?_
      refine lv_topi (fun v16 ev16 => ?_)
      obtain rfl : v16 = nI ((62 * n8) + i8) := ev16.trans (nI_add (62 * n8) i8)
      refine lv_istore (lv' := [(4, .int (nI ((62 * n8) + i8))), (3, .int (nI L8)), (0, .ref mo), (1, .int (nI n8)), (2, .int (nI i8))]) hx hb dX7_took_78 hl (by decide) rfl (fun ls hl => ?_)
      refine lv_aload_n hx hb dX7_took_80 rfl (lv_at hl 2 rfl) ?_
      refine zget (ci := 7) (C := RX7) (T := TX7) (N := 42) hx hb hts hi7 hown hK hP hM.1 rfl rfl 6 (by decide) (hts (.fieldLink RX7 26 "LinClusterModel" "listens" "[Z") (by decide +kernel)) (fun _ h9 => h9) (v := .ref (ad 6)) (congrArg (fun z => some (va_rf z)) (((hM.eq hst.1).2.1 6 (by decide)).1)) dX7_took_81 ?_
      refine lv_iload hx hb dX7_took_84 (lv_at hl 0 rfl) ?_
      refine zzald hx hb hK hP (hM.2.1 6 (by decide)).2.1 (show G.2.2 (ad 6) = 496 from (hM.2.1 6 (by decide)).2.2) (vp_in_nI (n := ((62 * n8) + i8)) (N := 496) (by omega) (by omega)) dX7_took_86 ?_
      refine lv_topi (fun v17 ev17 => ?_)
      rw [(nI_clamp (n := ((62 * n8) + i8)) (by omega))] at ev17
      refine lv_if_eq (tgt := 141) hx hb dX7_took_87 (by decide) (fun c18 => ?_) (fun c18 => ?_)
      · skip
        have kn19 := ev17.symm.trans c18
        refine lv_aload_n hx hb dX7_took_141 rfl (lv_at hl 2 rfl) ?_
        refine lv_iload_n hx hb dX7_took_142 rfl (lv_at hl 3 rfl) ?_
        refine lv_iload_n hx hb dX7_took_143 rfl (lv_at hl 4 rfl) ?_
        refine zcallv (va_runV (As := [.int (nI n8), .int (nI i8)]) (rest := []) ⟨hx, hb, hml, hown, hts⟩ (c_X7_rests l dC dI cy G (zpi (zpi S (ad 16) n8 1) (ad 20) n8 v12) H.size mo ad n8 (nI i8) (hM.eq hst.1) hI (by omega)) (cwV 2 hts gX7_took_X7_rests rfl rfl rfl (by decide +kernel) ⟨Nat.le_of_ble_eq_true rfl, Nat.le_of_ble_eq_true rfl⟩) (zpreV hK hP hD hN (zrecv7 hK hP hM.1)) rfl rfl hl.1 rfl (lv_room (Nat.le_of_ble_eq_true rfl)) dX7_took_144 ⟨Nat.le_of_ble_eq_true rfl, Nat.le_of_ble_eq_true rfl⟩) hS hD hA (fun S21 H locs hr20 hP hD hS => ?_)
        have hst := hst.trans (hr20.1.mono (by decide) (by decide))
        have hI := hr20.2
        have kn22 := (congrFun (hr20.1.2.1 20 (by decide) (by decide)) n8).trans kn14
        have kn23 := (congrFun (hr20.1.2.1 6 (by decide) (by decide)) ((62 * n8) + i8)).trans kn19
        exact W.vret hx hb hr (fun t ht hW => ⟨⟨S21, rfl, ⟨hst, hI⟩, by rw [ht]; exact hP, va_K.moved hW.alike hK, hD⟩, hS.F ht⟩) hS.2.2 dX7_took_147
      · skip
        refine lv_aload_n hx hb dX7_took_90 rfl (lv_at hl 2 rfl) ?_
        refine zget (ci := 7) (C := RX7) (T := TX7) (N := 42) hx hb hts hi7 hown hK hP hM.1 rfl rfl 7 (by decide) (hts (.fieldLink RX7 29 "LinClusterModel" "takings" "[I") (by decide +kernel)) (fun _ h9 => h9) (v := .ref (ad 7)) (congrArg (fun z => some (va_rf z)) (((hM.eq hst.1).2.1 7 (by decide)).1)) dX7_took_91 ?_
        refine lv_iload hx hb dX7_took_94 (lv_at hl 0 rfl) ?_
        refine lv_dup2_11 hx hb dX7_took_96 rfl rfl ?_
        refine ziald hx hb hK hP (hM.2.1 7 (by decide)).2.1 (show G.2.2 (ad 7) = 496 from (hM.2.1 7 (by decide)).2.2) (vp_in_nI (n := ((62 * n8) + i8)) (N := 496) (by omega) (by omega)) dX7_took_97 ?_
        refine lv_topi (fun v24 ev24 => ?_)
        rw [(nI_clamp (n := ((62 * n8) + i8)) (by omega))] at ev24
        refine lv_iconst (v := 1) hx hb dX7_took_98 (by decide) ?_
        refine lv_iadd hx hb dX7_took_99 ?_
        refine lv_topi (fun v25 ev25 => ?_)
        refine ziast (x := v25) hx hb hK hP hD hS (hM.2.1 7 (by decide)).2.1 (show G.2.2 (ad 7) = 496 from (hM.2.1 7 (by decide)).2.2) (vp_in_nI (n := ((62 * n8) + i8)) (N := 496) (by omega) (by omega)) dX7_took_100 (fun H locs hP hD hS => ?_)
        rw [(nI_clamp (n := ((62 * n8) + i8)) (by omega))] at hP hD
        have hst := zC.pa hM hst (k := 7) (by decide) (by decide) ((62 * n8) + i8) v25
        have kn26 := zpi_o hM (zpi (zpi S (ad 16) n8 1) (ad 20) n8 v12) (i := 16) (k := 7) (by decide) (by decide) (by decide) ((62 * n8) + i8) v25 kn13
        have kn27 := zpi_o hM (zpi (zpi S (ad 16) n8 1) (ad 20) n8 v12) (i := 20) (k := 7) (by decide) (by decide) (by decide) ((62 * n8) + i8) v25 kn14
        have hI := hI.free hM (k := 7) (by decide) (by decide) ((62 * n8) + i8) v25
        have kn28 := zpi_s (zpi (zpi S (ad 16) n8 1) (ad 20) n8 v12) (ad 7) ((62 * n8) + i8) v25
        refine lv_iconst (v := 0) hx hb dX7_took_101 (by decide) ?_
        refine lv_istore (lv' := [(5, .int 0), (4, .int (nI ((62 * n8) + i8))), (3, .int (nI L8)), (0, .ref mo), (1, .int (nI n8)), (2, .int (nI i8))]) hx hb dX7_took_102 hl (by decide) rfl (fun ls hl => ?_)
        refine zloopW L8 (fun k9 (_ : Unit) => [(0, .ref mo), (1, .int (nI n8)), (2, .int (nI i8)), (3, .int (nI L8)), (4, .int (nI ((62 * n8) + i8))), (5, .int (nI k9))]) (fun _ S' => zC mo ad [7, 8, 16, 17, 20, 21] [34] S S' ∧ zI mo ad S') ?_ ?_ L8 0 () (zpi (zpi (zpi S (ad 16) n8 1) (ad 20) n8 v12) (ad 7) ((62 * n8) + i8) v25) H locs ls (Nat.zero_add _) ⟨hst, hI⟩ hP hD hS (lv_sub hl [3, 4, 5, 2, 1, 0] rfl)
        · intro x9 S9 H locs ls hJ9 hP hD hS hl
          obtain ⟨hst, hI⟩ := hJ9
          have hl : lv_has ls 6 [(0, .ref mo), (1, .int (nI n8)), (2, .int (nI i8)), (3, .int (nI L8)), (4, .int (nI ((62 * n8) + i8))), (5, .int (nI L8))] := hl
          refine lv_iload hx hb dX7_took_104 (lv_at hl 5 rfl) ?_
          refine lv_iload_n hx hb dX7_took_106 rfl (lv_at hl 3 rfl) ?_
          refine lv_icmp_ge (tgt := 141) hx hb dX7_took_107 (by decide) (fun c29 => ?_) (fun c29 => ?_)
          · skip
            refine lv_aload_n hx hb dX7_took_141 rfl (lv_at hl 0 rfl) ?_
            refine lv_iload_n hx hb dX7_took_142 rfl (lv_at hl 1 rfl) ?_
            refine lv_iload_n hx hb dX7_took_143 rfl (lv_at hl 2 rfl) ?_
            refine zcallv (va_runV (As := [.int (nI n8), .int (nI i8)]) (rest := []) ⟨hx, hb, hml, hown, hts⟩ (c_X7_rests l dC dI cy G S9 H.size mo ad n8 (nI i8) (hM.eq hst.1) hI (by omega)) (cwV 2 hts gX7_took_X7_rests rfl rfl rfl (by decide +kernel) ⟨Nat.le_of_ble_eq_true rfl, Nat.le_of_ble_eq_true rfl⟩) (zpreV hK hP hD hN (zrecv7 hK hP hM.1)) rfl rfl hl.1 rfl (lv_room (Nat.le_of_ble_eq_true rfl)) dX7_took_144 ⟨Nat.le_of_ble_eq_true rfl, Nat.le_of_ble_eq_true rfl⟩) hS hD hA (fun S31 H locs hr30 hP hD hS => ?_)
            have hst := hst.trans (hr30.1.mono (by decide) (by decide))
            have hI := hr30.2
            exact W.vret hx hb hr (fun t ht hW => ⟨⟨S31, rfl, ⟨hst, hI⟩, by rw [ht]; exact hP, va_K.moved hW.alike hK, hD⟩, hS.F ht⟩) hS.2.2 dX7_took_147
          · exact absurd (nI_le (a := L8) (b := L8) (Nat.le_refl _) (by omega)) c29
        · intro n9 k9 x9 S9 H locs ls hk9 ih hJ9 hP hD hS hl
          obtain ⟨hst, hI⟩ := hJ9
          have hl : lv_has ls 6 [(0, .ref mo), (1, .int (nI n8)), (2, .int (nI i8)), (3, .int (nI L8)), (4, .int (nI ((62 * n8) + i8))), (5, .int (nI k9))] := hl
          refine lv_iload hx hb dX7_took_104 (lv_at hl 5 rfl) ?_
          refine lv_iload_n hx hb dX7_took_106 rfl (lv_at hl 3 rfl) ?_
          refine lv_icmp_ge (tgt := 141) hx hb dX7_took_107 (by decide) (fun c32 => ?_) (fun c32 => ?_)
          · exact absurd c32 (nI_ge (a := k9) (b := L8) (by omega) (by omega))
          · skip
            refine lv_aload_n hx hb dX7_took_110 rfl (lv_at hl 0 rfl) ?_
            refine zget (ci := 7) (C := RX7) (T := TX7) (N := 42) hx hb hts hi7 hown hK hP hM.1 rfl rfl 8 (by decide) (hts (.fieldLink RX7 32 "LinClusterModel" "kept" "[I") (by decide +kernel)) (fun _ h9 => h9) (v := .ref (ad 8)) (congrArg (fun z => some (va_rf z)) (((hM.eq hst.1).2.1 8 (by decide)).1)) dX7_took_111 ?_
            refine lv_bipush (v := 8) hx hb dX7_took_114 (by decide) ?_
            refine lv_iload hx hb dX7_took_116 (lv_at hl 4 rfl) ?_
            refine lv_imul hx hb dX7_took_118 ?_
            refine lv_topi (fun v33 ev33 => ?_)
            obtain rfl : v33 = nI (8 * ((62 * n8) + i8)) := ev33.trans (pk_mul 8 ((62 * n8) + i8))
            refine lv_iload hx hb dX7_took_119 (lv_at hl 5 rfl) ?_
            refine lv_iadd hx hb dX7_took_121 ?_
            refine lv_topi (fun v34 ev34 => ?_)
            obtain rfl : v34 = nI ((8 * ((62 * n8) + i8)) + k9) := ev34.trans (nI_add (8 * ((62 * n8) + i8)) k9)
            refine lv_aload_n hx hb dX7_took_122 rfl (lv_at hl 0 rfl) ?_
            refine zget (ci := 7) (C := RX7) (T := TX7) (N := 42) hx hb hts hi7 hown hK hP hM.1 rfl rfl 29 (by decide) (hts (.fieldLink RX7 92 "LinClusterModel" "row" "[I") (by decide +kernel)) (fun _ h9 => h9) (v := .ref (ad 29)) (congrArg (fun z => some (va_rf z)) (((hM.eq hst.1).2.1 29 (by decide)).1)) dX7_took_123 ?_
            refine lv_bipush (v := 16) hx hb dX7_took_126 (by decide) ?_
            refine lv_iload_n hx hb dX7_took_128 rfl (lv_at hl 1 rfl) ?_
            refine lv_imul hx hb dX7_took_129 ?_
            refine lv_topi (fun v35 ev35 => ?_)
            obtain rfl : v35 = nI (16 * n8) := ev35.trans (pk_mul 16 n8)
            refine lv_iload hx hb dX7_took_130 (lv_at hl 5 rfl) ?_
            refine lv_iadd hx hb dX7_took_132 ?_
            refine lv_topi (fun v36 ev36 => ?_)
            obtain rfl : v36 = nI ((16 * n8) + k9) := ev36.trans (nI_add (16 * n8) k9)
            refine ziald hx hb hK hP (hM.2.1 29 (by decide)).2.1 (show G.2.2 (ad 29) = 128 from (hM.2.1 29 (by decide)).2.2) (vp_in_nI (n := ((16 * n8) + k9)) (N := 128) (by omega) (by omega)) dX7_took_133 ?_
            refine lv_topi (fun v37 ev37 => ?_)
            rw [(nI_clamp (n := ((16 * n8) + k9)) (by omega))] at ev37
            refine ziast (x := v37) hx hb hK hP hD hS (hM.2.1 8 (by decide)).2.1 (show G.2.2 (ad 8) = 3968 from (hM.2.1 8 (by decide)).2.2) (vp_in_nI (n := ((8 * ((62 * n8) + i8)) + k9)) (N := 3968) (by omega) (by omega)) dX7_took_134 (fun H locs hP hD hS => ?_)
            rw [(nI_clamp (n := ((8 * ((62 * n8) + i8)) + k9)) (by omega))] at hP hD
            have hst := zC.pa hM hst (k := 8) (by decide) (by decide) ((8 * ((62 * n8) + i8)) + k9) v37
            have hI := hI.free hM (k := 8) (by decide) (by decide) ((8 * ((62 * n8) + i8)) + k9) v37
            have kn38 := zpi_s S9 (ad 8) ((8 * ((62 * n8) + i8)) + k9) v37
            obtain ⟨v39, ev39⟩ : ∃ y : Int32, y = (nI k9) + 1 := ⟨_, rfl⟩
            refine lv_iinc (v := v39) (lv' := [(5, .int v39), (0, .ref mo), (1, .int (nI n8)), (2, .int (nI i8)), (3, .int (nI L8)), (4, .int (nI ((62 * n8) + i8)))]) hx hb dX7_took_135 hl (k := 5) rfl (by rw [ev39]; rfl) (by decide) rfl (fun ls hl => ?_)
            refine lv_goto (tgt := 104) hx hb dX7_took_138 (by decide) ?_
            have e9 : v39 = nI (k9 + 1) := by rw [ev39]; exact nI_1 k9
            rw [e9] at hl
            exact ih () (zpi S9 (ad 8) ((8 * ((62 * n8) + i8)) + k9) v37) H locs ls ⟨hst, hI⟩ hP hD hS (lv_sub hl [1, 2, 3, 4, 5, 0] rfl)
    · skip
      refine lv_aload_n hx hb dX7_took_56 rfl (lv_at hl 1 rfl) ?_
      refine lv_iload_n hx hb dX7_took_57 rfl (lv_at hl 2 rfl) ?_
      refine zcallv (va_runV (As := [.int (nI n8)]) (rest := []) ⟨hx, hb, hml, hown, hts⟩ (c_X7_error l dC dI cy G (zpi S (ad 16) n8 1) H.size mo ad n8 (hM.eq hst.1) (by omega)) (cwV 1 hts gX7_took_X7_error rfl rfl rfl (by decide +kernel) ⟨Nat.le_of_ble_eq_true rfl, Nat.le_of_ble_eq_true rfl⟩) (zpreV hK hP hD hN (zrecv7 hK hP hM.1)) rfl rfl hl.1 rfl (lv_room (Nat.le_of_ble_eq_true rfl)) dX7_took_58 ⟨Nat.le_of_ble_eq_true rfl, Nat.le_of_ble_eq_true rfl⟩) hS hD hA (fun S41 H locs hr40 hP hD hS => ?_)
      have hst := hst.trans (hr40.mono (by decide) (by decide))
      have hI := hI.c hr40 (by decide) (by decide)
      have kn42 := (congrFun (hr40.2.1 16 (by decide) (by decide)) n8).trans kn1
      exact W.vret hx hb hr (fun t ht hW => ⟨⟨S41, rfl, ⟨hst, hI⟩, by rw [ht]; exact hP, va_K.moved hW.alike hK, hD⟩, hS.F ht⟩) hS.2.2 dX7_took_61
  · skip
    refine lv_iload_n hx hb dX7_took_31 rfl (lv_at hl 3 rfl) ?_
    refine vp_callSi (va_Run.run (va_runS (As := [.int (nI i8)]) (rest := [.int (nI L8), .int (nI (16 * n8)), .ref (ad 29)]) ⟨hx, hb, hml, hown, hts⟩ (c_X7_pidOf l (nI i8)) (va_cwS 1 hts gX7_took_X7_pidOf rfl rfl rfl (by decide +kernel) ⟨Nat.le_of_ble_eq_true rfl, Nat.le_of_ble_eq_true rfl⟩) zpreS0 rfl rfl hl.1 rfl (lv_room (Nat.le_of_ble_eq_true rfl)) dX7_took_32 ⟨Nat.le_of_ble_eq_true rfl, Nat.le_of_ble_eq_true rfl⟩)) (fun r43 hr43 => ?_)
    refine lv_goto (tgt := 39) hx hb dX7_took_35 (by decide) ?_
    refine vp_callSi (va_Run.run (va_runS (As := [.ref (ad 29), .int (nI (16 * n8)), .int (nI L8), .int r43]) (rest := []) ⟨hx, hb, hml, hown, hts⟩ (c_X7_checksum l dC dI cy G (zpi S (ad 16) n8 1) H.size (ad 29) (16 * n8) L8 128 r43 (hM.2.1 29 (by decide)).2.1 (show G.2.2 (ad 29) = 128 from (hM.2.1 29 (by decide)).2.2) (by omega) (by omega)) (va_cwS 4 hts gX7_took_X7_checksum rfl rfl rfl (by decide +kernel) ⟨Nat.le_of_ble_eq_true rfl, Nat.le_of_ble_eq_true rfl⟩) (zpreS hK hP hD hN) rfl rfl hl.1 rfl (lv_room (Nat.le_of_ble_eq_true rfl)) dX7_took_39 ⟨Nat.le_of_ble_eq_true rfl, Nat.le_of_ble_eq_true rfl⟩)) (fun r44 hr44 => ?_)
    refine lv_aload_n hx hb dX7_took_42 rfl (lv_at hl 1 rfl) ?_
    refine zget (ci := 7) (C := RX7) (T := TX7) (N := 42) hx hb hts hi7 hown hK hP hM.1 rfl rfl 29 (by decide) (hts (.fieldLink RX7 92 "LinClusterModel" "row" "[I") (by decide +kernel)) (fun _ h9 => h9) (v := .ref (ad 29)) (congrArg (fun z => some (va_rf z)) (((hM.eq hst.1).2.1 29 (by decide)).1)) dX7_took_43 ?_
    refine lv_bipush (v := 16) hx hb dX7_took_46 (by decide) ?_
    refine lv_iload_n hx hb dX7_took_48 rfl (lv_at hl 2 rfl) ?_
    refine lv_imul hx hb dX7_took_49 ?_
    refine lv_topi (fun v45 ev45 => ?_)
    obtain rfl : v45 = nI (16 * n8) := ev45.trans (pk_mul 16 n8)
    refine lv_iload_n hx hb dX7_took_50 rfl (lv_at hl 0 rfl) ?_
    refine lv_iadd hx hb dX7_took_51 ?_
    refine lv_topi (fun v46 ev46 => ?_)
    obtain rfl : v46 = nI ((16 * n8) + L8) := ev46.trans (nI_add (16 * n8) L8)
    refine ziald hx hb hK hP (hM.2.1 29 (by decide)).2.1 (show G.2.2 (ad 29) = 128 from (hM.2.1 29 (by decide)).2.2) (vp_in_nI (n := ((16 * n8) + L8)) (N := 128) (by omega) (by omega)) dX7_took_52 ?_
    refine lv_topi (fun v47 ev47 => ?_)
    rw [(nI_clamp (n := ((16 * n8) + L8)) (by omega))] at ev47
    refine lv_icmp_eq (tgt := 62) hx hb dX7_took_53 (by decide) (fun c48 => ?_) (fun c48 => ?_)
    · skip
      refine lv_aload_n hx hb dX7_took_62 rfl (lv_at hl 1 rfl) ?_
      refine zget (ci := 7) (C := RX7) (T := TX7) (N := 42) hx hb hts hi7 hown hK hP hM.1 rfl rfl 20 (by decide) (hts (.fieldLink RX7 65 "LinClusterModel" "taken" "[I") (by decide +kernel)) (fun _ h9 => h9) (v := .ref (ad 20)) (congrArg (fun z => some (va_rf z)) (((hM.eq hst.1).2.1 20 (by decide)).1)) dX7_took_63 ?_
      refine lv_iload_n hx hb dX7_took_66 rfl (lv_at hl 2 rfl) ?_
      refine lv_dup2_11 hx hb dX7_took_67 rfl rfl ?_
      refine ziald hx hb hK hP (hM.2.1 20 (by decide)).2.1 (show G.2.2 (ad 20) = 8 from (hM.2.1 20 (by decide)).2.2) (vp_in_nI (n := n8) (N := 8) (by omega) (by omega)) dX7_took_68 ?_
      refine lv_topi (fun v49 ev49 => ?_)
      rw [(nI_clamp (n := n8) (by omega))] at ev49
      refine lv_iconst (v := 1) hx hb dX7_took_69 (by decide) ?_
      refine lv_iadd hx hb dX7_took_70 ?_
      refine lv_topi (fun v50 ev50 => ?_)
      refine ziast (x := v50) hx hb hK hP hD hS (hM.2.1 20 (by decide)).2.1 (show G.2.2 (ad 20) = 8 from (hM.2.1 20 (by decide)).2.2) (vp_in_nI (n := n8) (N := 8) (by omega) (by omega)) dX7_took_71 (fun H locs hP hD hS => ?_)
      rw [(nI_clamp (n := n8) (by omega))] at hP hD
      have hst := zC.pa hM hst (k := 20) (by decide) (by decide) n8 v50
      have kn51 := zpi_o hM (zpi S (ad 16) n8 1) (i := 16) (k := 20) (by decide) (by decide) (by decide) n8 v50 kn1
      have hI := hI.free hM (k := 20) (by decide) (by decide) n8 v50
      have kn52 := zpi_s (zpi S (ad 16) n8 1) (ad 20) n8 v50
      refine lv_bipush (v := 62) hx hb dX7_took_72 (by decide) ?_
      refine lv_iload_n hx hb dX7_took_74 rfl (lv_at hl 2 rfl) ?_
      refine lv_imul hx hb dX7_took_75 ?_
      refine lv_topi (fun v53 ev53 => ?_)
      obtain rfl : v53 = nI (62 * n8) := ev53.trans (pk_mul 62 n8)
      refine lv_iload_n hx hb dX7_took_76 rfl (lv_at hl 3 rfl) ?_
      refine lv_iadd hx hb dX7_took_77 ?_
      refine lv_topi (fun v54 ev54 => ?_)
      obtain rfl : v54 = nI ((62 * n8) + i8) := ev54.trans (nI_add (62 * n8) i8)
      refine lv_istore (lv' := [(4, .int (nI ((62 * n8) + i8))), (3, .int (nI L8)), (0, .ref mo), (1, .int (nI n8)), (2, .int (nI i8))]) hx hb dX7_took_78 hl (by decide) rfl (fun ls hl => ?_)
      refine lv_aload_n hx hb dX7_took_80 rfl (lv_at hl 2 rfl) ?_
      refine zget (ci := 7) (C := RX7) (T := TX7) (N := 42) hx hb hts hi7 hown hK hP hM.1 rfl rfl 6 (by decide) (hts (.fieldLink RX7 26 "LinClusterModel" "listens" "[Z") (by decide +kernel)) (fun _ h9 => h9) (v := .ref (ad 6)) (congrArg (fun z => some (va_rf z)) (((hM.eq hst.1).2.1 6 (by decide)).1)) dX7_took_81 ?_
      refine lv_iload hx hb dX7_took_84 (lv_at hl 0 rfl) ?_
      refine zzald hx hb hK hP (hM.2.1 6 (by decide)).2.1 (show G.2.2 (ad 6) = 496 from (hM.2.1 6 (by decide)).2.2) (vp_in_nI (n := ((62 * n8) + i8)) (N := 496) (by omega) (by omega)) dX7_took_86 ?_
      refine lv_topi (fun v55 ev55 => ?_)
      rw [(nI_clamp (n := ((62 * n8) + i8)) (by omega))] at ev55
      refine lv_if_eq (tgt := 141) hx hb dX7_took_87 (by decide) (fun c56 => ?_) (fun c56 => ?_)
      · skip
        have kn57 := ev55.symm.trans c56
        refine lv_aload_n hx hb dX7_took_141 rfl (lv_at hl 2 rfl) ?_
        refine lv_iload_n hx hb dX7_took_142 rfl (lv_at hl 3 rfl) ?_
        refine lv_iload_n hx hb dX7_took_143 rfl (lv_at hl 4 rfl) ?_
        refine zcallv (va_runV (As := [.int (nI n8), .int (nI i8)]) (rest := []) ⟨hx, hb, hml, hown, hts⟩ (c_X7_rests l dC dI cy G (zpi (zpi S (ad 16) n8 1) (ad 20) n8 v50) H.size mo ad n8 (nI i8) (hM.eq hst.1) hI (by omega)) (cwV 2 hts gX7_took_X7_rests rfl rfl rfl (by decide +kernel) ⟨Nat.le_of_ble_eq_true rfl, Nat.le_of_ble_eq_true rfl⟩) (zpreV hK hP hD hN (zrecv7 hK hP hM.1)) rfl rfl hl.1 rfl (lv_room (Nat.le_of_ble_eq_true rfl)) dX7_took_144 ⟨Nat.le_of_ble_eq_true rfl, Nat.le_of_ble_eq_true rfl⟩) hS hD hA (fun S59 H locs hr58 hP hD hS => ?_)
        have hst := hst.trans (hr58.1.mono (by decide) (by decide))
        have hI := hr58.2
        have kn60 := (congrFun (hr58.1.2.1 20 (by decide) (by decide)) n8).trans kn52
        have kn61 := (congrFun (hr58.1.2.1 6 (by decide) (by decide)) ((62 * n8) + i8)).trans kn57
        exact W.vret hx hb hr (fun t ht hW => ⟨⟨S59, rfl, ⟨hst, hI⟩, by rw [ht]; exact hP, va_K.moved hW.alike hK, hD⟩, hS.F ht⟩) hS.2.2 dX7_took_147
      · skip
        refine lv_aload_n hx hb dX7_took_90 rfl (lv_at hl 2 rfl) ?_
        refine zget (ci := 7) (C := RX7) (T := TX7) (N := 42) hx hb hts hi7 hown hK hP hM.1 rfl rfl 7 (by decide) (hts (.fieldLink RX7 29 "LinClusterModel" "takings" "[I") (by decide +kernel)) (fun _ h9 => h9) (v := .ref (ad 7)) (congrArg (fun z => some (va_rf z)) (((hM.eq hst.1).2.1 7 (by decide)).1)) dX7_took_91 ?_
        refine lv_iload hx hb dX7_took_94 (lv_at hl 0 rfl) ?_
        refine lv_dup2_11 hx hb dX7_took_96 rfl rfl ?_
        refine ziald hx hb hK hP (hM.2.1 7 (by decide)).2.1 (show G.2.2 (ad 7) = 496 from (hM.2.1 7 (by decide)).2.2) (vp_in_nI (n := ((62 * n8) + i8)) (N := 496) (by omega) (by omega)) dX7_took_97 ?_
        refine lv_topi (fun v62 ev62 => ?_)
        rw [(nI_clamp (n := ((62 * n8) + i8)) (by omega))] at ev62
        refine lv_iconst (v := 1) hx hb dX7_took_98 (by decide) ?_
        refine lv_iadd hx hb dX7_took_99 ?_
        refine lv_topi (fun v63 ev63 => ?_)
        refine ziast (x := v63) hx hb hK hP hD hS (hM.2.1 7 (by decide)).2.1 (show G.2.2 (ad 7) = 496 from (hM.2.1 7 (by decide)).2.2) (vp_in_nI (n := ((62 * n8) + i8)) (N := 496) (by omega) (by omega)) dX7_took_100 (fun H locs hP hD hS => ?_)
        rw [(nI_clamp (n := ((62 * n8) + i8)) (by omega))] at hP hD
        have hst := zC.pa hM hst (k := 7) (by decide) (by decide) ((62 * n8) + i8) v63
        have kn64 := zpi_o hM (zpi (zpi S (ad 16) n8 1) (ad 20) n8 v50) (i := 16) (k := 7) (by decide) (by decide) (by decide) ((62 * n8) + i8) v63 kn51
        have kn65 := zpi_o hM (zpi (zpi S (ad 16) n8 1) (ad 20) n8 v50) (i := 20) (k := 7) (by decide) (by decide) (by decide) ((62 * n8) + i8) v63 kn52
        have hI := hI.free hM (k := 7) (by decide) (by decide) ((62 * n8) + i8) v63
        have kn66 := zpi_s (zpi (zpi S (ad 16) n8 1) (ad 20) n8 v50) (ad 7) ((62 * n8) + i8) v63
        refine lv_iconst (v := 0) hx hb dX7_took_101 (by decide) ?_
        refine lv_istore (lv' := [(5, .int 0), (4, .int (nI ((62 * n8) + i8))), (3, .int (nI L8)), (0, .ref mo), (1, .int (nI n8)), (2, .int (nI i8))]) hx hb dX7_took_102 hl (by decide) rfl (fun ls hl => ?_)
        refine zloopW L8 (fun k9 (_ : Unit) => [(0, .ref mo), (1, .int (nI n8)), (2, .int (nI i8)), (3, .int (nI L8)), (4, .int (nI ((62 * n8) + i8))), (5, .int (nI k9))]) (fun _ S' => zC mo ad [7, 8, 16, 17, 20, 21] [34] S S' ∧ zI mo ad S') ?_ ?_ L8 0 () (zpi (zpi (zpi S (ad 16) n8 1) (ad 20) n8 v50) (ad 7) ((62 * n8) + i8) v63) H locs ls (Nat.zero_add _) ⟨hst, hI⟩ hP hD hS (lv_sub hl [3, 4, 5, 2, 1, 0] rfl)
        · intro x9 S9 H locs ls hJ9 hP hD hS hl
          obtain ⟨hst, hI⟩ := hJ9
          have hl : lv_has ls 6 [(0, .ref mo), (1, .int (nI n8)), (2, .int (nI i8)), (3, .int (nI L8)), (4, .int (nI ((62 * n8) + i8))), (5, .int (nI L8))] := hl
          refine lv_iload hx hb dX7_took_104 (lv_at hl 5 rfl) ?_
          refine lv_iload_n hx hb dX7_took_106 rfl (lv_at hl 3 rfl) ?_
          refine lv_icmp_ge (tgt := 141) hx hb dX7_took_107 (by decide) (fun c67 => ?_) (fun c67 => ?_)
          · skip
            refine lv_aload_n hx hb dX7_took_141 rfl (lv_at hl 0 rfl) ?_
            refine lv_iload_n hx hb dX7_took_142 rfl (lv_at hl 1 rfl) ?_
            refine lv_iload_n hx hb dX7_took_143 rfl (lv_at hl 2 rfl) ?_
            refine zcallv (va_runV (As := [.int (nI n8), .int (nI i8)]) (rest := []) ⟨hx, hb, hml, hown, hts⟩ (c_X7_rests l dC dI cy G S9 H.size mo ad n8 (nI i8) (hM.eq hst.1) hI (by omega)) (cwV 2 hts gX7_took_X7_rests rfl rfl rfl (by decide +kernel) ⟨Nat.le_of_ble_eq_true rfl, Nat.le_of_ble_eq_true rfl⟩) (zpreV hK hP hD hN (zrecv7 hK hP hM.1)) rfl rfl hl.1 rfl (lv_room (Nat.le_of_ble_eq_true rfl)) dX7_took_144 ⟨Nat.le_of_ble_eq_true rfl, Nat.le_of_ble_eq_true rfl⟩) hS hD hA (fun S69 H locs hr68 hP hD hS => ?_)
            have hst := hst.trans (hr68.1.mono (by decide) (by decide))
            have hI := hr68.2
            exact W.vret hx hb hr (fun t ht hW => ⟨⟨S69, rfl, ⟨hst, hI⟩, by rw [ht]; exact hP, va_K.moved hW.alike hK, hD⟩, hS.F ht⟩) hS.2.2 dX7_took_147
          · exact absurd (nI_le (a := L8) (b := L8) (Nat.le_refl _) (by omega)) c67
        · intro n9 k9 x9 S9 H locs ls hk9 ih hJ9 hP hD hS hl
          obtain ⟨hst, hI⟩ := hJ9
          have hl : lv_has ls 6 [(0, .ref mo), (1, .int (nI n8)), (2, .int (nI i8)), (3, .int (nI L8)), (4, .int (nI ((62 * n8) + i8))), (5, .int (nI k9))] := hl
          refine lv_iload hx hb dX7_took_104 (lv_at hl 5 rfl) ?_
          refine lv_iload_n hx hb dX7_took_106 rfl (lv_at hl 3 rfl) ?_
          refine lv_icmp_ge (tgt := 141) hx hb dX7_took_107 (by decide) (fun c70 => ?_) (fun c70 => ?_)
          · exact absurd c70 (nI_ge (a := k9) (b := L8) (by omega) (by omega))
          · skip
            refine lv_aload_n hx hb dX7_took_110 rfl (lv_at hl 0 rfl) ?_
            refine zget (ci := 7) (C := RX7) (T := TX7) (N := 42) hx hb hts hi7 hown hK hP hM.1 rfl rfl 8 (by decide) (hts (.fieldLink RX7 32 "LinClusterModel" "kept" "[I") (by decide +kernel)) (fun _ h9 => h9) (v := .ref (ad 8)) (congrArg (fun z => some (va_rf z)) (((hM.eq hst.1).2.1 8 (by decide)).1)) dX7_took_111 ?_
            refine lv_bipush (v := 8) hx hb dX7_took_114 (by decide) ?_
            refine lv_iload hx hb dX7_took_116 (lv_at hl 4 rfl) ?_
            refine lv_imul hx hb dX7_took_118 ?_
            refine lv_topi (fun v71 ev71 => ?_)
            obtain rfl : v71 = nI (8 * ((62 * n8) + i8)) := ev71.trans (pk_mul 8 ((62 * n8) + i8))
            refine lv_iload hx hb dX7_took_119 (lv_at hl 5 rfl) ?_
            refine lv_iadd hx hb dX7_took_121 ?_
            refine lv_topi (fun v72 ev72 => ?_)
            obtain rfl : v72 = nI ((8 * ((62 * n8) + i8)) + k9) := ev72.trans (nI_add (8 * ((62 * n8) + i8)) k9)
            refine lv_aload_n hx hb dX7_took_122 rfl (lv_at hl 0 rfl) ?_
            refine zget (ci := 7) (C := RX7) (T := TX7) (N := 42) hx hb hts hi7 hown hK hP hM.1 rfl rfl 29 (by decide) (hts (.fieldLink RX7 92 "LinClusterModel" "row" "[I") (by decide +kernel)) (fun _ h9 => h9) (v := .ref (ad 29)) (congrArg (fun z => some (va_rf z)) (((hM.eq hst.1).2.1 29 (by decide)).1)) dX7_took_123 ?_
            refine lv_bipush (v := 16) hx hb dX7_took_126 (by decide) ?_
            refine lv_iload_n hx hb dX7_took_128 rfl (lv_at hl 1 rfl) ?_
            refine lv_imul hx hb dX7_took_129 ?_
            refine lv_topi (fun v73 ev73 => ?_)
            obtain rfl : v73 = nI (16 * n8) := ev73.trans (pk_mul 16 n8)
            refine lv_iload hx hb dX7_took_130 (lv_at hl 5 rfl) ?_
            refine lv_iadd hx hb dX7_took_132 ?_
            refine lv_topi (fun v74 ev74 => ?_)
            obtain rfl : v74 = nI ((16 * n8) + k9) := ev74.trans (nI_add (16 * n8) k9)
            refine ziald hx hb hK hP (hM.2.1 29 (by decide)).2.1 (show G.2.2 (ad 29) = 128 from (hM.2.1 29 (by decide)).2.2) (vp_in_nI (n := ((16 * n8) + k9)) (N := 128) (by omega) (by omega)) dX7_took_133 ?_
            refine lv_topi (fun v75 ev75 => ?_)
            rw [(nI_clamp (n := ((16 * n8) + k9)) (by omega))] at ev75
            refine ziast (x := v75) hx hb hK hP hD hS (hM.2.1 8 (by decide)).2.1 (show G.2.2 (ad 8) = 3968 from (hM.2.1 8 (by decide)).2.2) (vp_in_nI (n := ((8 * ((62 * n8) + i8)) + k9)) (N := 3968) (by omega) (by omega)) dX7_took_134 (fun H locs hP hD hS => ?_)
            rw [(nI_clamp (n := ((8 * ((62 * n8) + i8)) + k9)) (by omega))] at hP hD
            have hst := zC.pa hM hst (k := 8) (by decide) (by decide) ((8 * ((62 * n8) + i8)) + k9) v75
            have hI := hI.free hM (k := 8) (by decide) (by decide) ((8 * ((62 * n8) + i8)) + k9) v75
            have kn76 := zpi_s S9 (ad 8) ((8 * ((62 * n8) + i8)) + k9) v75
            obtain ⟨v77, ev77⟩ : ∃ y : Int32, y = (nI k9) + 1 := ⟨_, rfl⟩
            refine lv_iinc (v := v77) (lv' := [(5, .int v77), (0, .ref mo), (1, .int (nI n8)), (2, .int (nI i8)), (3, .int (nI L8)), (4, .int (nI ((62 * n8) + i8)))]) hx hb dX7_took_135 hl (k := 5) rfl (by rw [ev77]; rfl) (by decide) rfl (fun ls hl => ?_)
            refine lv_goto (tgt := 104) hx hb dX7_took_138 (by decide) ?_
            have e9 : v77 = nI (k9 + 1) := by rw [ev77]; exact nI_1 k9
            rw [e9] at hl
            exact ih () (zpi S9 (ad 8) ((8 * ((62 * n8) + i8)) + k9) v75) H locs ls ⟨hst, hI⟩ hP hD hS (lv_sub hl [1, 2, 3, 4, 5, 0] rfl)
    · skip
      refine lv_aload_n hx hb dX7_took_56 rfl (lv_at hl 1 rfl) ?_
      refine lv_iload_n hx hb dX7_took_57 rfl (lv_at hl 2 rfl) ?_
      refine zcallv (va_runV (As := [.int (nI n8)]) (rest := []) ⟨hx, hb, hml, hown, hts⟩ (c_X7_error l dC dI cy G (zpi S (ad 16) n8 1) H.size mo ad n8 (hM.eq hst.1) (by omega)) (cwV 1 hts gX7_took_X7_error rfl rfl rfl (by decide +kernel) ⟨Nat.le_of_ble_eq_true rfl, Nat.le_of_ble_eq_true rfl⟩) (zpreV hK hP hD hN (zrecv7 hK hP hM.1)) rfl rfl hl.1 rfl (lv_room (Nat.le_of_ble_eq_true rfl)) dX7_took_58 ⟨Nat.le_of_ble_eq_true rfl, Nat.le_of_ble_eq_true rfl⟩) hS hD hA (fun S79 H locs hr78 hP hD hS => ?_)
      have hst := hst.trans (hr78.mono (by decide) (by decide))
      have hI := hI.c hr78 (by decide) (by decide)
      have kn80 := (congrFun (hr78.2.1 16 (by decide) (by decide)) n8).trans kn1
      exact W.vret hx hb hr (fun t ht hW => ⟨⟨S79, rfl, ⟨hst, hI⟩, by rw [ht]; exact hP, va_K.moved hW.alike hK, hD⟩, hS.F ht⟩) hS.2.2 dX7_took_61
set_option maxHeartbeats 4000000 in
set_option maxRecDepth 100000 in
theorem c_X7_taking (l : Launch) (dC : Nat → ClassId) (dI : Nat → Nat → Nat) (cy : Nat → ClassId) (G : zG) (S : zS) (sz : Nat) (mo : Nat) (ad : Nat → Nat) (n8 : Nat) (v : Int32) (hM : zM G S mo ad) (hI : zI mo ad S) (hn8 : n8 < 8) (hat : S.1 (ad 16) n8 = 5) : Met l yX7_taking wsX7_taking ({ frames := 3, cells := 0, slots := 0, locals := 68 }) (zP dC dI cy [.ref mo, .int (nI n8), .int v] G S sz) (va_Qv (fun S' => (zC mo ad [7, 8, 16, 17, 18, 19, 20, 21, 22, 23, 24, 25, 26, 27, 28, 29, 30, 31, 32] [34] S S') ∧ zI mo ad S') (zB dC dI cy (zA cy G S sz) G) (zA cy G S sz)) 0 0 (zA cy G S sz) := by
  refine Met.ofW (cc := cX7_taking) (maxL := 5) (ret := none) (by decide) rfl ?_
  intro p e s m args below meth c s₁ B hml hv
  obtain ⟨rfl, hsz, hP, hK, hD0, hN⟩ := hv
  have hx := B.exec
  have hb := B.bytes
  have hr := B.returns
  have hts := atoms_spec (ws := wsX7_taking) B.pre
  have hown : s.vm.findClass RX7 = some m.cls := findClass_of_methodNamed B.named
  have hlocks := B.notSynchronized
  subst hsz
  have hD : va_D (zA cy G S s.heap.size) (zW cy G S) := hD0.self
  generalize hAe : zA cy G S s.heap.size = A at hD ⊢
  have hA : ∀ q : Nat, s.heap.size ≤ q → A q := fun q h => by rw [← hAe]; exact Or.inr h
  have hS : va_S A s.heap s.heap [] := va_S.rf
  have hst := zC.refl mo ad [7, 8, 16, 17, 18, 19, 20, 21, 22, 23, 24, 25, 26, 27, 28, 29, 30, 31, 32] [34] S
  have hl := lv_entry ([.ref mo, .int (nI n8), .int v]) (n := 5) (Nat.le_of_ble_eq_true rfl)
  rw [lg_entry_eq]
  generalize (lg_sl ([.ref mo, .int (nI n8), .int v]) ++ List.replicate (5 - (lg_sl ([.ref mo, .int (nI n8), .int v])).length) Slot.unset).toArray = ls at hl ⊢
  have hl : lv_has ls 5 [(0, .ref mo), (1, .int (nI n8)), (2, .int v)] := hl
  have hi7 : ∀ w ∈ wsX70, w ∈ wsX7_taking := by decide +kernel
  obtain ⟨hb8, i8, L8, hi8, ei8, hL8, eL8, h48, h58⟩ := hI.1.2 n8 hn8
  obtain ⟨q8, eq8, hq8⟩ := h58 hat
  refine lv_aload_n hx hb dX7_taking_0 rfl (lv_at hl 0 rfl) ?_
  refine zget (ci := 7) (C := RX7) (T := TX7) (N := 42) hx hb hts hi7 hown hK hP hM.1 rfl rfl 28 (by decide) (hts (.fieldLink RX7 89 "LinClusterModel" "idAt" "[I") (by decide +kernel)) (fun _ h9 => h9) (v := .ref (ad 28)) (congrArg (fun z => some (va_rf z)) (((hM.eq hst.1).2.1 28 (by decide)).1)) dX7_taking_1 ?_
  refine lv_iload_n hx hb dX7_taking_4 rfl (lv_at hl 1 rfl) ?_
  refine ziald hx hb hK hP (hM.2.1 28 (by decide)).2.1 (show G.2.2 (ad 28) = 8 from (hM.2.1 28 (by decide)).2.2) (vp_in_nI (n := n8) (N := 8) (by omega) (by omega)) dX7_taking_5 ?_
  refine lv_topi (fun v1 ev1 => ?_)
  rw [(nI_clamp (n := n8) (by omega))] at ev1
  obtain rfl : v1 = (nI i8) := ev1.trans ei8
  refine lv_istore_n (lv' := [(3, .int (nI i8)), (0, .ref mo), (1, .int (nI n8)), (2, .int v)]) hx hb dX7_taking_6 rfl hl (by decide) rfl (fun ls hl => ?_)
  refine lv_aload_n hx hb dX7_taking_7 rfl (lv_at hl 1 rfl) ?_
  refine zget (ci := 7) (C := RX7) (T := TX7) (N := 42) hx hb hts hi7 hown hK hP hM.1 rfl rfl 2 (by decide) (hts (.fieldLink RX7 13 "LinClusterModel" "lengths" "[I") (by decide +kernel)) (fun _ h9 => h9) (v := .ref (ad 2)) (congrArg (fun z => some (va_rf z)) (((hM.eq hst.1).2.1 2 (by decide)).1)) dX7_taking_8 ?_
  refine lv_iload_n hx hb dX7_taking_11 rfl (lv_at hl 0 rfl) ?_
  refine ziald hx hb hK hP (hM.2.1 2 (by decide)).2.1 (show G.2.2 (ad 2) = 62 from (hM.2.1 2 (by decide)).2.2) (vp_in_nI (n := i8) (N := 62) (by omega) (by omega)) dX7_taking_12 ?_
  refine lv_topi (fun v2 ev2 => ?_)
  rw [(nI_clamp (n := i8) (by omega))] at ev2
  obtain rfl : v2 = (nI L8) := ev2.trans eL8
  refine lv_iconst (v := 1) hx hb dX7_taking_13 (by decide) ?_
  refine lv_iadd hx hb dX7_taking_14 ?_
  refine lv_topi (fun v3 ev3 => ?_)
  obtain rfl : v3 = nI (L8 + 1) := ev3.trans (nI_add L8 1)
  refine lv_istore (lv' := [(4, .int (nI (L8 + 1))), (3, .int (nI i8)), (0, .ref mo), (1, .int (nI n8)), (2, .int v)]) hx hb dX7_taking_15 hl (by decide) rfl (fun ls hl => ?_)
  refine lv_aload_n hx hb dX7_taking_17 rfl (lv_at hl 2 rfl) ?_
  refine zget (ci := 7) (C := RX7) (T := TX7) (N := 42) hx hb hts hi7 hown hK hP hM.1 rfl rfl 32 (by decide) (hts (.fieldLink RX7 101 "LinClusterModel" "ticks" "[I") (by decide +kernel)) (fun _ h9 => h9) (v := .ref (ad 32)) (congrArg (fun z => some (va_rf z)) (((hM.eq hst.1).2.1 32 (by decide)).1)) dX7_taking_18 ?_
  refine lv_iload_n hx hb dX7_taking_21 rfl (lv_at hl 3 rfl) ?_
  refine lv_dup2_11 hx hb dX7_taking_22 rfl rfl ?_
  refine ziald hx hb hK hP (hM.2.1 32 (by decide)).2.1 (show G.2.2 (ad 32) = 8 from (hM.2.1 32 (by decide)).2.2) (vp_in_nI (n := n8) (N := 8) (by omega) (by omega)) dX7_taking_23 ?_
  refine lv_topi (fun v4 ev4 => ?_)
  rw [(nI_clamp (n := n8) (by omega))] at ev4
  refine lv_iconst (v := 1) hx hb dX7_taking_24 (by decide) ?_
  refine lv_iadd hx hb dX7_taking_25 ?_
  refine lv_topi (fun v5 ev5 => ?_)
  refine ziast (x := v5) hx hb hK hP hD hS (hM.2.1 32 (by decide)).2.1 (show G.2.2 (ad 32) = 8 from (hM.2.1 32 (by decide)).2.2) (vp_in_nI (n := n8) (N := 8) (by omega) (by omega)) dX7_taking_26 (fun H locs hP hD hS => ?_)
  rw [(nI_clamp (n := n8) (by omega))] at hP hD
  have hst := zC.pa hM hst (k := 32) (by decide) (by decide) n8 v5
  have kn6 := zpi_o hM S (i := 2) (k := 32) (by decide) (by decide) (by decide) n8 v5 eL8
  have kn7 := zpi_o hM S (i := 28) (k := 32) (by decide) (by decide) (by decide) n8 v5 ei8
  have kn8 := zpi_o hM S (i := 16) (k := 32) (by decide) (by decide) (by decide) n8 v5 hat
  have kn9 := zpi_o hM S (i := 27) (k := 32) (by decide) (by decide) (by decide) n8 v5 eq8
  have hI := hI.free hM (k := 32) (by decide) (by decide) n8 v5
  have kn10 := zpi_s S (ad 32) n8 v5
  refine lv_aload_n hx hb dX7_taking_27 rfl (lv_at hl 2 rfl) ?_
  refine lv_iload_n hx hb dX7_taking_28 rfl (lv_at hl 3 rfl) ?_
  refine lv_iload_n hx hb dX7_taking_29 rfl (lv_at hl 4 rfl) ?_
  refine zcalli (va_runV (As := [.int (nI n8), .int v]) (rest := []) ⟨hx, hb, hml, hown, hts⟩ (c_X7_collects l dC dI cy G (zpi S (ad 32) n8 v5) H.size mo ad n8 v (hM.eq hst.1) (by omega)) (cwV 2 hts gX7_taking_X7_collects rfl rfl rfl (by decide +kernel) ⟨Nat.le_of_ble_eq_true rfl, Nat.le_of_ble_eq_true rfl⟩) (zpreV hK hP hD hN (zrecv7 hK hP hM.1)) rfl rfl hl.1 rfl (lv_room (Nat.le_of_ble_eq_true rfl)) dX7_taking_30 ⟨Nat.le_of_ble_eq_true rfl, Nat.le_of_ble_eq_true rfl⟩) hS hD hA (fun r11 S12 H locs hr11 hP hD hS => ?_)
  have hst := hst.trans (hr11.mono (by decide) (by decide))
  have hI := hI.c hr11 (by decide) (by decide)
  have kn13 := (congrFun (hr11.2.1 2 (by decide) (by decide)) i8).trans kn6
  have kn14 := (congrFun (hr11.2.1 28 (by decide) (by decide)) n8).trans kn7
  have kn15 := (congrFun (hr11.2.1 16 (by decide) (by decide)) n8).trans kn8
  have kn16 := (congrFun (hr11.2.1 27 (by decide) (by decide)) n8).trans kn9
  have kn17 := (congrFun (hr11.2.1 32 (by decide) (by decide)) n8).trans kn10
  refine lv_if_eq (tgt := 107) hx hb dX7_taking_33 (by decide) (fun c18 => ?_) (fun c18 => ?_)
  · skip
    refine lv_aload_n hx hb dX7_taking_107 rfl (lv_at hl 2 rfl) ?_
    refine zget (ci := 7) (C := RX7) (T := TX7) (N := 42) hx hb hts hi7 hown hK hP hM.1 rfl rfl 32 (by decide) (hts (.fieldLink RX7 101 "LinClusterModel" "ticks" "[I") (by decide +kernel)) (fun _ h9 => h9) (v := .ref (ad 32)) (congrArg (fun z => some (va_rf z)) (((hM.eq hst.1).2.1 32 (by decide)).1)) dX7_taking_108 ?_
    refine lv_iload_n hx hb dX7_taking_111 rfl (lv_at hl 3 rfl) ?_
    refine ziald hx hb hK hP (hM.2.1 32 (by decide)).2.1 (show G.2.2 (ad 32) = 8 from (hM.2.1 32 (by decide)).2.2) (vp_in_nI (n := n8) (N := 8) (by omega) (by omega)) dX7_taking_112 ?_
    refine lv_topi (fun v19 ev19 => ?_)
    rw [(nI_clamp (n := n8) (by omega))] at ev19
    refine lv_bipush (v := 14) hx hb dX7_taking_113 (by decide) ?_
    refine lv_iload hx hb dX7_taking_115 (lv_at hl 0 rfl) ?_
    refine lv_imul hx hb dX7_taking_117 ?_
    refine lv_topi (fun v20 ev20 => ?_)
    obtain rfl : v20 = nI (14 * (L8 + 1)) := ev20.trans (pk_mul 14 (L8 + 1))
    refine lv_icmp_ne (tgt := 133) hx hb dX7_taking_118 (by decide) (fun c21 => ?_) (fun c21 => ?_)
    · skip
      exact W.vret hx hb hr (fun t ht hW => ⟨⟨S12, rfl, ⟨hst, hI⟩, by rw [ht]; exact hP, va_K.moved hW.alike hK, hD⟩, hS.F ht⟩) hS.2.2 dX7_taking_133
    · skip
      refine lv_aload_n hx hb dX7_taking_121 rfl (lv_at hl 2 rfl) ?_
      refine lv_iload_n hx hb dX7_taking_122 rfl (lv_at hl 3 rfl) ?_
      refine zcallv (va_runV (As := [.int (nI n8)]) (rest := []) ⟨hx, hb, hml, hown, hts⟩ (c_X7_error l dC dI cy G S12 H.size mo ad n8 (hM.eq hst.1) (by omega)) (cwV 1 hts gX7_taking_X7_error rfl rfl rfl (by decide +kernel) ⟨Nat.le_of_ble_eq_true rfl, Nat.le_of_ble_eq_true rfl⟩) (zpreV hK hP hD hN (zrecv7 hK hP hM.1)) rfl rfl hl.1 rfl (lv_room (Nat.le_of_ble_eq_true rfl)) dX7_taking_123 ⟨Nat.le_of_ble_eq_true rfl, Nat.le_of_ble_eq_true rfl⟩) hS hD hA (fun S23 H locs hr22 hP hD hS => ?_)
      have hst := hst.trans (hr22.mono (by decide) (by decide))
      have hI := hI.c hr22 (by decide) (by decide)
      have kn24 := (congrFun (hr22.2.1 2 (by decide) (by decide)) i8).trans kn13
      have kn25 := (congrFun (hr22.2.1 28 (by decide) (by decide)) n8).trans kn14
      have kn26 := (congrFun (hr22.2.1 16 (by decide) (by decide)) n8).trans kn15
      have kn27 := (congrFun (hr22.2.1 27 (by decide) (by decide)) n8).trans kn16
      have kn28 := (congrFun (hr22.2.1 32 (by decide) (by decide)) n8).trans kn17
      refine lv_aload_n hx hb dX7_taking_126 rfl (lv_at hl 2 rfl) ?_
      refine zget (ci := 7) (C := RX7) (T := TX7) (N := 42) hx hb hts hi7 hown hK hP hM.1 rfl rfl 16 (by decide) (hts (.fieldLink RX7 53 "LinClusterModel" "at" "[I") (by decide +kernel)) (fun _ h9 => h9) (v := .ref (ad 16)) (congrArg (fun z => some (va_rf z)) (((hM.eq hst.1).2.1 16 (by decide)).1)) dX7_taking_127 ?_
      refine lv_iload_n hx hb dX7_taking_130 rfl (lv_at hl 3 rfl) ?_
      refine lv_iconst (v := 1) hx hb dX7_taking_131 (by decide) ?_
      refine ziast (x := 1) hx hb hK hP hD hS (hM.2.1 16 (by decide)).2.1 (show G.2.2 (ad 16) = 8 from (hM.2.1 16 (by decide)).2.2) (vp_in_nI (n := n8) (N := 8) (by omega) (by omega)) dX7_taking_132 (fun H locs hP hD hS => ?_)
      rw [(nI_clamp (n := n8) (by omega))] at hP hD
      have hst := zC.pa hM hst (k := 16) (by decide) (by decide) n8 1
      have kn29 := zpi_o hM S23 (i := 2) (k := 16) (by decide) (by decide) (by decide) n8 1 kn24
      have kn30 := zpi_o hM S23 (i := 28) (k := 16) (by decide) (by decide) (by decide) n8 1 kn25
      have kn31 := zpi_o hM S23 (i := 27) (k := 16) (by decide) (by decide) (by decide) n8 1 kn27
      have kn32 := zpi_o hM S23 (i := 32) (k := 16) (by decide) (by decide) (by decide) n8 1 kn28
      have hI := hI.at hM hn8 (v := 1) (by decide) (by decide)
      have kn33 := zpi_s S23 (ad 16) n8 1
      exact W.vret hx hb hr (fun t ht hW => ⟨⟨(zpi S23 (ad 16) n8 1), rfl, ⟨hst, hI⟩, by rw [ht]; exact hP, va_K.moved hW.alike hK, hD⟩, hS.F ht⟩) hS.2.2 dX7_taking_133
  · skip
    refine lv_aload_n hx hb dX7_taking_36 rfl (lv_at hl 2 rfl) ?_
    refine zget (ci := 7) (C := RX7) (T := TX7) (N := 42) hx hb hts hi7 hown hK hP hM.1 rfl rfl 29 (by decide) (hts (.fieldLink RX7 92 "LinClusterModel" "row" "[I") (by decide +kernel)) (fun _ h9 => h9) (v := .ref (ad 29)) (congrArg (fun z => some (va_rf z)) (((hM.eq hst.1).2.1 29 (by decide)).1)) dX7_taking_37 ?_
    refine lv_bipush (v := 16) hx hb dX7_taking_40 (by decide) ?_
    refine lv_iload_n hx hb dX7_taking_42 rfl (lv_at hl 3 rfl) ?_
    refine lv_imul hx hb dX7_taking_43 ?_
    refine lv_topi (fun v34 ev34 => ?_)
    obtain rfl : v34 = nI (16 * n8) := ev34.trans (pk_mul 16 n8)
    refine lv_aload_n hx hb dX7_taking_44 rfl (lv_at hl 2 rfl) ?_
    refine zget (ci := 7) (C := RX7) (T := TX7) (N := 42) hx hb hts hi7 hown hK hP hM.1 rfl rfl 27 (by decide) (hts (.fieldLink RX7 86 "LinClusterModel" "characters" "[I") (by decide +kernel)) (fun _ h9 => h9) (v := .ref (ad 27)) (congrArg (fun z => some (va_rf z)) (((hM.eq hst.1).2.1 27 (by decide)).1)) dX7_taking_45 ?_
    refine lv_iload_n hx hb dX7_taking_48 rfl (lv_at hl 3 rfl) ?_
    refine ziald hx hb hK hP (hM.2.1 27 (by decide)).2.1 (show G.2.2 (ad 27) = 8 from (hM.2.1 27 (by decide)).2.2) (vp_in_nI (n := n8) (N := 8) (by omega) (by omega)) dX7_taking_49 ?_
    refine lv_topi (fun v35 ev35 => ?_)
    rw [(nI_clamp (n := n8) (by omega))] at ev35
    obtain rfl : v35 = (nI q8) := ev35.trans kn16
    refine lv_iadd hx hb dX7_taking_50 ?_
    refine lv_topi (fun v36 ev36 => ?_)
    obtain rfl : v36 = nI ((16 * n8) + q8) := ev36.trans (nI_add (16 * n8) q8)
    refine lv_aload_n hx hb dX7_taking_51 rfl (lv_at hl 2 rfl) ?_
    refine zget (ci := 7) (C := RX7) (T := TX7) (N := 42) hx hb hts hi7 hown hK hP hM.1 rfl rfl 26 (by decide) (hts (.fieldLink RX7 83 "LinClusterModel" "values" "[I") (by decide +kernel)) (fun _ h9 => h9) (v := .ref (ad 26)) (congrArg (fun z => some (va_rf z)) (((hM.eq hst.1).2.1 26 (by decide)).1)) dX7_taking_52 ?_
    refine lv_iload_n hx hb dX7_taking_55 rfl (lv_at hl 3 rfl) ?_
    refine ziald hx hb hK hP (hM.2.1 26 (by decide)).2.1 (show G.2.2 (ad 26) = 8 from (hM.2.1 26 (by decide)).2.2) (vp_in_nI (n := n8) (N := 8) (by omega) (by omega)) dX7_taking_56 ?_
    refine lv_topi (fun v37 ev37 => ?_)
    rw [(nI_clamp (n := n8) (by omega))] at ev37
    refine lv_sipush (v := 255) hx hb dX7_taking_57 (by decide) ?_
    refine lv_iand hx hb dX7_taking_60 ?_
    refine lv_topi (fun v38 ev38 => ?_)
    refine ziast (x := v38) hx hb hK hP hD hS (hM.2.1 29 (by decide)).2.1 (show G.2.2 (ad 29) = 128 from (hM.2.1 29 (by decide)).2.2) (vp_in_nI (n := ((16 * n8) + q8)) (N := 128) (by omega) (by omega)) dX7_taking_61 (fun H locs hP hD hS => ?_)
    rw [(nI_clamp (n := ((16 * n8) + q8)) (by omega))] at hP hD
    have hst := zC.pa hM hst (k := 29) (by decide) (by decide) ((16 * n8) + q8) v38
    have kn39 := zpi_o hM S12 (i := 2) (k := 29) (by decide) (by decide) (by decide) ((16 * n8) + q8) v38 kn13
    have kn40 := zpi_o hM S12 (i := 28) (k := 29) (by decide) (by decide) (by decide) ((16 * n8) + q8) v38 kn14
    have kn41 := zpi_o hM S12 (i := 16) (k := 29) (by decide) (by decide) (by decide) ((16 * n8) + q8) v38 kn15
    have kn42 := zpi_o hM S12 (i := 27) (k := 29) (by decide) (by decide) (by decide) ((16 * n8) + q8) v38 kn16
    have kn43 := zpi_o hM S12 (i := 32) (k := 29) (by decide) (by decide) (by decide) ((16 * n8) + q8) v38 kn17
    have hI := hI.free hM (k := 29) (by decide) (by decide) ((16 * n8) + q8) v38
    have kn44 := zpi_s S12 (ad 29) ((16 * n8) + q8) v38
    refine lv_aload_n hx hb dX7_taking_62 rfl (lv_at hl 2 rfl) ?_
    refine zget (ci := 7) (C := RX7) (T := TX7) (N := 42) hx hb hts hi7 hown hK hP hM.1 rfl rfl 27 (by decide) (hts (.fieldLink RX7 86 "LinClusterModel" "characters" "[I") (by decide +kernel)) (fun _ h9 => h9) (v := .ref (ad 27)) (congrArg (fun z => some (va_rf z)) (((hM.eq hst.1).2.1 27 (by decide)).1)) dX7_taking_63 ?_
    refine lv_iload_n hx hb dX7_taking_66 rfl (lv_at hl 3 rfl) ?_
    refine lv_dup2_11 hx hb dX7_taking_67 rfl rfl ?_
    refine ziald hx hb hK hP (hM.2.1 27 (by decide)).2.1 (show G.2.2 (ad 27) = 8 from (hM.2.1 27 (by decide)).2.2) (vp_in_nI (n := n8) (N := 8) (by omega) (by omega)) dX7_taking_68 ?_
    refine lv_topi (fun v45 ev45 => ?_)
    rw [(nI_clamp (n := n8) (by omega))] at ev45
    obtain rfl : v45 = (nI q8) := ev45.trans kn42
    refine lv_iconst (v := 1) hx hb dX7_taking_69 (by decide) ?_
    refine lv_iadd hx hb dX7_taking_70 ?_
    refine lv_topi (fun v46 ev46 => ?_)
    obtain rfl : v46 = nI (q8 + 1) := ev46.trans (nI_add q8 1)
    refine ziast (x := (nI (q8 + 1))) hx hb hK hP hD hS (hM.2.1 27 (by decide)).2.1 (show G.2.2 (ad 27) = 8 from (hM.2.1 27 (by decide)).2.2) (vp_in_nI (n := n8) (N := 8) (by omega) (by omega)) dX7_taking_71 (fun H locs hP hD hS => ?_)
    rw [(nI_clamp (n := n8) (by omega))] at hP hD
    have hst := zC.pa hM hst (k := 27) (by decide) (by decide) n8 (nI (q8 + 1))
    have kn47 := zpi_o hM (zpi S12 (ad 29) ((16 * n8) + q8) v38) (i := 2) (k := 27) (by decide) (by decide) (by decide) n8 (nI (q8 + 1)) kn39
    have kn48 := zpi_o hM (zpi S12 (ad 29) ((16 * n8) + q8) v38) (i := 28) (k := 27) (by decide) (by decide) (by decide) n8 (nI (q8 + 1)) kn40
    have kn49 := zpi_o hM (zpi S12 (ad 29) ((16 * n8) + q8) v38) (i := 16) (k := 27) (by decide) (by decide) (by decide) n8 (nI (q8 + 1)) kn41
    have kn50 := zpi_o hM (zpi S12 (ad 29) ((16 * n8) + q8) v38) (i := 32) (k := 27) (by decide) (by decide) (by decide) n8 (nI (q8 + 1)) kn43
    have kn51 := zpi_o hM (zpi S12 (ad 29) ((16 * n8) + q8) v38) (i := 29) (k := 27) (by decide) (by decide) (by decide) n8 (nI (q8 + 1)) kn44
    have hI := hI.ix hn8
    have hI := hI.ch hM (nI (q8 + 1))
    have kn52 := zpi_s (zpi S12 (ad 29) ((16 * n8) + q8) v38) (ad 27) n8 (nI (q8 + 1))
    refine lv_iload_n hx hb dX7_taking_72 rfl (lv_at hl 4 rfl) ?_
    refine lv_if_ne (tgt := 89) hx hb dX7_taking_73 (by decide) (fun c53 => ?_) (fun c53 => ?_)
    · skip
      refine lv_aload_n hx hb dX7_taking_89 rfl (lv_at hl 2 rfl) ?_
      refine zget (ci := 7) (C := RX7) (T := TX7) (N := 42) hx hb hts hi7 hown hK hP hM.1 rfl rfl 27 (by decide) (hts (.fieldLink RX7 86 "LinClusterModel" "characters" "[I") (by decide +kernel)) (fun _ h9 => h9) (v := .ref (ad 27)) (congrArg (fun z => some (va_rf z)) (((hM.eq hst.1).2.1 27 (by decide)).1)) dX7_taking_90 ?_
      refine lv_iload_n hx hb dX7_taking_93 rfl (lv_at hl 3 rfl) ?_
      refine ziald hx hb hK hP (hM.2.1 27 (by decide)).2.1 (show G.2.2 (ad 27) = 8 from (hM.2.1 27 (by decide)).2.2) (vp_in_nI (n := n8) (N := 8) (by omega) (by omega)) dX7_taking_94 ?_
      refine lv_topi (fun v54 ev54 => ?_)
      rw [(nI_clamp (n := n8) (by omega))] at ev54
      obtain rfl : v54 = (nI (q8 + 1)) := ev54.trans kn52
      refine lv_iload hx hb dX7_taking_95 (lv_at hl 0 rfl) ?_
      refine lv_icmp_ne (tgt := 107) hx hb dX7_taking_97 (by decide) (fun c55 => ?_) (fun c55 => ?_)
      · skip
        refine lv_aload_n hx hb dX7_taking_107 rfl (lv_at hl 2 rfl) ?_
        refine zget (ci := 7) (C := RX7) (T := TX7) (N := 42) hx hb hts hi7 hown hK hP hM.1 rfl rfl 32 (by decide) (hts (.fieldLink RX7 101 "LinClusterModel" "ticks" "[I") (by decide +kernel)) (fun _ h9 => h9) (v := .ref (ad 32)) (congrArg (fun z => some (va_rf z)) (((hM.eq hst.1).2.1 32 (by decide)).1)) dX7_taking_108 ?_
        refine lv_iload_n hx hb dX7_taking_111 rfl (lv_at hl 3 rfl) ?_
        refine ziald hx hb hK hP (hM.2.1 32 (by decide)).2.1 (show G.2.2 (ad 32) = 8 from (hM.2.1 32 (by decide)).2.2) (vp_in_nI (n := n8) (N := 8) (by omega) (by omega)) dX7_taking_112 ?_
        refine lv_topi (fun v56 ev56 => ?_)
        rw [(nI_clamp (n := n8) (by omega))] at ev56
        refine lv_bipush (v := 14) hx hb dX7_taking_113 (by decide) ?_
        refine lv_iload hx hb dX7_taking_115 (lv_at hl 0 rfl) ?_
        refine lv_imul hx hb dX7_taking_117 ?_
        refine lv_topi (fun v57 ev57 => ?_)
        obtain rfl : v57 = nI (14 * (L8 + 1)) := ev57.trans (pk_mul 14 (L8 + 1))
        refine lv_icmp_ne (tgt := 133) hx hb dX7_taking_118 (by decide) (fun c58 => ?_) (fun c58 => ?_)
        · skip
          have hI := hI.close (fun i L ei hi eL hL => by
            have e1 : i = i8 := (nI_eq (by omega) (by omega)).mp (ei.symm.trans kn48)
            subst e1
            have e2 : L = L8 := (nI_eq (by omega) (by omega)).mp (eL.symm.trans kn47)
            subst e2
            refine ⟨fun z9 => absurd (kn49.symm.trans z9) (by decide), fun _ => ⟨(q8 + 1), kn52, ?_⟩⟩
            have hne : q8 + 1 ≠ L + 1 := fun z9 => c55 (by rw [z9])
            omega)
          exact W.vret hx hb hr (fun t ht hW => ⟨⟨(zpi (zpi S12 (ad 29) ((16 * n8) + q8) v38) (ad 27) n8 (nI (q8 + 1))), rfl, ⟨hst, hI⟩, by rw [ht]; exact hP, va_K.moved hW.alike hK, hD⟩, hS.F ht⟩) hS.2.2 dX7_taking_133
        · skip
          refine lv_aload_n hx hb dX7_taking_121 rfl (lv_at hl 2 rfl) ?_
          refine lv_iload_n hx hb dX7_taking_122 rfl (lv_at hl 3 rfl) ?_
          refine zcallv (va_runV (As := [.int (nI n8)]) (rest := []) ⟨hx, hb, hml, hown, hts⟩ (c_X7_error l dC dI cy G (zpi (zpi S12 (ad 29) ((16 * n8) + q8) v38) (ad 27) n8 (nI (q8 + 1))) H.size mo ad n8 (hM.eq hst.1) (by omega)) (cwV 1 hts gX7_taking_X7_error rfl rfl rfl (by decide +kernel) ⟨Nat.le_of_ble_eq_true rfl, Nat.le_of_ble_eq_true rfl⟩) (zpreV hK hP hD hN (zrecv7 hK hP hM.1)) rfl rfl hl.1 rfl (lv_room (Nat.le_of_ble_eq_true rfl)) dX7_taking_123 ⟨Nat.le_of_ble_eq_true rfl, Nat.le_of_ble_eq_true rfl⟩) hS hD hA (fun S60 H locs hr59 hP hD hS => ?_)
          have hst := hst.trans (hr59.mono (by decide) (by decide))
          have hI := hI.c hr59 (by decide) (by decide)
          have kn61 := (congrFun (hr59.2.1 2 (by decide) (by decide)) i8).trans kn47
          have kn62 := (congrFun (hr59.2.1 28 (by decide) (by decide)) n8).trans kn48
          have kn63 := (congrFun (hr59.2.1 16 (by decide) (by decide)) n8).trans kn49
          have kn64 := (congrFun (hr59.2.1 32 (by decide) (by decide)) n8).trans kn50
          have kn65 := (congrFun (hr59.2.1 29 (by decide) (by decide)) ((16 * n8) + q8)).trans kn51
          have kn66 := (congrFun (hr59.2.1 27 (by decide) (by decide)) n8).trans kn52
          refine lv_aload_n hx hb dX7_taking_126 rfl (lv_at hl 2 rfl) ?_
          refine zget (ci := 7) (C := RX7) (T := TX7) (N := 42) hx hb hts hi7 hown hK hP hM.1 rfl rfl 16 (by decide) (hts (.fieldLink RX7 53 "LinClusterModel" "at" "[I") (by decide +kernel)) (fun _ h9 => h9) (v := .ref (ad 16)) (congrArg (fun z => some (va_rf z)) (((hM.eq hst.1).2.1 16 (by decide)).1)) dX7_taking_127 ?_
          refine lv_iload_n hx hb dX7_taking_130 rfl (lv_at hl 3 rfl) ?_
          refine lv_iconst (v := 1) hx hb dX7_taking_131 (by decide) ?_
          refine ziast (x := 1) hx hb hK hP hD hS (hM.2.1 16 (by decide)).2.1 (show G.2.2 (ad 16) = 8 from (hM.2.1 16 (by decide)).2.2) (vp_in_nI (n := n8) (N := 8) (by omega) (by omega)) dX7_taking_132 (fun H locs hP hD hS => ?_)
          rw [(nI_clamp (n := n8) (by omega))] at hP hD
          have hst := zC.pa hM hst (k := 16) (by decide) (by decide) n8 1
          have kn67 := zpi_o hM S60 (i := 2) (k := 16) (by decide) (by decide) (by decide) n8 1 kn61
          have kn68 := zpi_o hM S60 (i := 28) (k := 16) (by decide) (by decide) (by decide) n8 1 kn62
          have kn69 := zpi_o hM S60 (i := 32) (k := 16) (by decide) (by decide) (by decide) n8 1 kn64
          have kn70 := zpi_o hM S60 (i := 29) (k := 16) (by decide) (by decide) (by decide) n8 1 kn65
          have kn71 := zpi_o hM S60 (i := 27) (k := 16) (by decide) (by decide) (by decide) n8 1 kn66
          have hI := hI.at hM (v := 1) (by decide) (by decide)
          have kn72 := zpi_s S60 (ad 16) n8 1
          exact W.vret hx hb hr (fun t ht hW => ⟨⟨(zpi S60 (ad 16) n8 1), rfl, ⟨hst, hI⟩, by rw [ht]; exact hP, va_K.moved hW.alike hK, hD⟩, hS.F ht⟩) hS.2.2 dX7_taking_133
      · skip
        refine lv_aload_n hx hb dX7_taking_100 rfl (lv_at hl 2 rfl) ?_
        refine lv_iload_n hx hb dX7_taking_101 rfl (lv_at hl 3 rfl) ?_
        refine lv_iload_n hx hb dX7_taking_102 rfl (lv_at hl 1 rfl) ?_
        refine zcallv (va_runV (As := [.int (nI n8), .int (nI i8)]) (rest := []) ⟨hx, hb, hml, hown, hts⟩ (c_X7_took l dC dI cy G (zpi (zpi S12 (ad 29) ((16 * n8) + q8) v38) (ad 27) n8 (nI (q8 + 1))) H.size mo ad n8 i8 (hM.eq hst.1) hI (by omega) (by omega)) (cwV 2 hts gX7_taking_X7_took rfl rfl rfl (by decide +kernel) ⟨Nat.le_of_ble_eq_true rfl, Nat.le_of_ble_eq_true rfl⟩) (zpreV hK hP hD hN (zrecv7 hK hP hM.1)) rfl rfl hl.1 rfl (lv_room (Nat.le_of_ble_eq_true rfl)) dX7_taking_103 ⟨Nat.le_of_ble_eq_true rfl, Nat.le_of_ble_eq_true rfl⟩) hS hD hA (fun S74 H locs hr73 hP hD hS => ?_)
        have hst := hst.trans (hr73.1.mono (by decide) (by decide))
        have hI := hr73.2
        have kn75 := (congrFun (hr73.1.2.1 2 (by decide) (by decide)) i8).trans kn47
        have kn76 := (congrFun (hr73.1.2.1 28 (by decide) (by decide)) n8).trans kn48
        have kn77 := (congrFun (hr73.1.2.1 32 (by decide) (by decide)) n8).trans kn50
        have kn78 := (congrFun (hr73.1.2.1 29 (by decide) (by decide)) ((16 * n8) + q8)).trans kn51
        have kn79 := (congrFun (hr73.1.2.1 27 (by decide) (by decide)) n8).trans kn52
        exact W.vret hx hb hr (fun t ht hW => ⟨⟨S74, rfl, ⟨hst, hI⟩, by rw [ht]; exact hP, va_K.moved hW.alike hK, hD⟩, hS.F ht⟩) hS.2.2 dX7_taking_106
    · skip
      refine lv_aload_n hx hb dX7_taking_76 rfl (lv_at hl 2 rfl) ?_
      refine lv_iload_n hx hb dX7_taking_77 rfl (lv_at hl 3 rfl) ?_
      refine zcallv (va_runV (As := [.int (nI n8)]) (rest := []) ⟨hx, hb, hml, hown, hts⟩ (c_X7_error l dC dI cy G (zpi (zpi S12 (ad 29) ((16 * n8) + q8) v38) (ad 27) n8 (nI (q8 + 1))) H.size mo ad n8 (hM.eq hst.1) (by omega)) (cwV 1 hts gX7_taking_X7_error rfl rfl rfl (by decide +kernel) ⟨Nat.le_of_ble_eq_true rfl, Nat.le_of_ble_eq_true rfl⟩) (zpreV hK hP hD hN (zrecv7 hK hP hM.1)) rfl rfl hl.1 rfl (lv_room (Nat.le_of_ble_eq_true rfl)) dX7_taking_78 ⟨Nat.le_of_ble_eq_true rfl, Nat.le_of_ble_eq_true rfl⟩) hS hD hA (fun S81 H locs hr80 hP hD hS => ?_)
      have hst := hst.trans (hr80.mono (by decide) (by decide))
      have hI := hI.c hr80 (by decide) (by decide)
      have kn82 := (congrFun (hr80.2.1 2 (by decide) (by decide)) i8).trans kn47
      have kn83 := (congrFun (hr80.2.1 28 (by decide) (by decide)) n8).trans kn48
      have kn84 := (congrFun (hr80.2.1 16 (by decide) (by decide)) n8).trans kn49
      have kn85 := (congrFun (hr80.2.1 32 (by decide) (by decide)) n8).trans kn50
      have kn86 := (congrFun (hr80.2.1 29 (by decide) (by decide)) ((16 * n8) + q8)).trans kn51
      have kn87 := (congrFun (hr80.2.1 27 (by decide) (by decide)) n8).trans kn52
      refine lv_aload_n hx hb dX7_taking_81 rfl (lv_at hl 2 rfl) ?_
      refine zget (ci := 7) (C := RX7) (T := TX7) (N := 42) hx hb hts hi7 hown hK hP hM.1 rfl rfl 16 (by decide) (hts (.fieldLink RX7 53 "LinClusterModel" "at" "[I") (by decide +kernel)) (fun _ h9 => h9) (v := .ref (ad 16)) (congrArg (fun z => some (va_rf z)) (((hM.eq hst.1).2.1 16 (by decide)).1)) dX7_taking_82 ?_
      refine lv_iload_n hx hb dX7_taking_85 rfl (lv_at hl 3 rfl) ?_
      refine lv_iconst (v := 1) hx hb dX7_taking_86 (by decide) ?_
      refine ziast (x := 1) hx hb hK hP hD hS (hM.2.1 16 (by decide)).2.1 (show G.2.2 (ad 16) = 8 from (hM.2.1 16 (by decide)).2.2) (vp_in_nI (n := n8) (N := 8) (by omega) (by omega)) dX7_taking_87 (fun H locs hP hD hS => ?_)
      rw [(nI_clamp (n := n8) (by omega))] at hP hD
      have hst := zC.pa hM hst (k := 16) (by decide) (by decide) n8 1
      have kn88 := zpi_o hM S81 (i := 2) (k := 16) (by decide) (by decide) (by decide) n8 1 kn82
      have kn89 := zpi_o hM S81 (i := 28) (k := 16) (by decide) (by decide) (by decide) n8 1 kn83
      have kn90 := zpi_o hM S81 (i := 32) (k := 16) (by decide) (by decide) (by decide) n8 1 kn85
      have kn91 := zpi_o hM S81 (i := 29) (k := 16) (by decide) (by decide) (by decide) n8 1 kn86
      have kn92 := zpi_o hM S81 (i := 27) (k := 16) (by decide) (by decide) (by decide) n8 1 kn87
      have hI := hI.at hM (v := 1) (by decide) (by decide)
      have kn93 := zpi_s S81 (ad 16) n8 1
      exact W.vret hx hb hr (fun t ht hW => ⟨⟨(zpi S81 (ad 16) n8 1), rfl, ⟨hst, hI⟩, by rw [ht]; exact hP, va_K.moved hW.alike hK, hD⟩, hS.F ht⟩) hS.2.2 dX7_taking_88
set_option maxHeartbeats 4000000 in
set_option maxRecDepth 100000 in
theorem c_X7_saying (l : Launch) (dC : Nat → ClassId) (dI : Nat → Nat → Nat) (cy : Nat → ClassId) (G : zG) (S : zS) (sz : Nat) (mo : Nat) (ad : Nat → Nat) (n8 : Nat) (v : Int32) (hM : zM G S mo ad) (hI : zI mo ad S) (hn8 : n8 < 8) (hat : S.1 (ad 16) n8 = 4) : Met l yX7_saying wsX7_saying ({ frames := 2, cells := 0, slots := 0, locals := 43 }) (zP dC dI cy [.ref mo, .int (nI n8), .int v] G S sz) (va_Qv (fun S' => (zC mo ad [7, 8, 16, 17, 18, 19, 20, 21, 22, 23, 24, 25, 26, 27, 28, 29, 30, 31, 32] [34] S S') ∧ zI mo ad S') (zB dC dI cy (zA cy G S sz) G) (zA cy G S sz)) 0 0 (zA cy G S sz) := by
  refine Met.ofW (cc := cX7_saying) (maxL := 5) (ret := none) (by decide) rfl ?_
  intro p e s m args below meth c s₁ B hml hv
  obtain ⟨rfl, hsz, hP, hK, hD0, hN⟩ := hv
  have hx := B.exec
  have hb := B.bytes
  have hr := B.returns
  have hts := atoms_spec (ws := wsX7_saying) B.pre
  have hown : s.vm.findClass RX7 = some m.cls := findClass_of_methodNamed B.named
  have hlocks := B.notSynchronized
  subst hsz
  have hD : va_D (zA cy G S s.heap.size) (zW cy G S) := hD0.self
  generalize hAe : zA cy G S s.heap.size = A at hD ⊢
  have hA : ∀ q : Nat, s.heap.size ≤ q → A q := fun q h => by rw [← hAe]; exact Or.inr h
  have hS : va_S A s.heap s.heap [] := va_S.rf
  have hst := zC.refl mo ad [7, 8, 16, 17, 18, 19, 20, 21, 22, 23, 24, 25, 26, 27, 28, 29, 30, 31, 32] [34] S
  have hl := lv_entry ([.ref mo, .int (nI n8), .int v]) (n := 5) (Nat.le_of_ble_eq_true rfl)
  rw [lg_entry_eq]
  generalize (lg_sl ([.ref mo, .int (nI n8), .int v]) ++ List.replicate (5 - (lg_sl ([.ref mo, .int (nI n8), .int v])).length) Slot.unset).toArray = ls at hl ⊢
  have hl : lv_has ls 5 [(0, .ref mo), (1, .int (nI n8)), (2, .int v)] := hl
  have hi7 : ∀ w ∈ wsX70, w ∈ wsX7_saying := by decide +kernel
  obtain ⟨hb8, i8, L8, hi8, ei8, hL8, eL8, h48, h58⟩ := hI.1.2 n8 hn8
  obtain ⟨q8, eq8, hq8⟩ := h48 hat
  refine lv_aload_n hx hb dX7_saying_0 rfl (lv_at hl 0 rfl) ?_
  refine zget (ci := 7) (C := RX7) (T := TX7) (N := 42) hx hb hts hi7 hown hK hP hM.1 rfl rfl 31 (by decide) (hts (.fieldLink RX7 98 "LinClusterModel" "before" "[I") (by decide +kernel)) (fun _ h9 => h9) (v := .ref (ad 31)) (congrArg (fun z => some (va_rf z)) (((hM.eq hst.1).2.1 31 (by decide)).1)) dX7_saying_1 ?_
  refine lv_iload_n hx hb dX7_saying_4 rfl (lv_at hl 1 rfl) ?_
  refine ziald hx hb hK hP (hM.2.1 31 (by decide)).2.1 (show G.2.2 (ad 31) = 8 from (hM.2.1 31 (by decide)).2.2) (vp_in_nI (n := n8) (N := 8) (by omega) (by omega)) dX7_saying_5 ?_
  refine lv_topi (fun v1 ev1 => ?_)
  rw [(nI_clamp (n := n8) (by omega))] at ev1
  refine lv_if_le (tgt := 13) hx hb dX7_saying_6 (by decide) (fun c2 => ?_) (fun c2 => ?_)
  · skip
    refine lv_aload_n hx hb dX7_saying_13 rfl (lv_at hl 0 rfl) ?_
    refine lv_iload_n hx hb dX7_saying_14 rfl (lv_at hl 1 rfl) ?_
    refine vp_callSi (va_Run.run (va_runV (As := [.int (nI n8)]) (rest := []) ⟨hx, hb, hml, hown, hts⟩ (c_X7_sayingBit l dC dI cy G S s.heap.size mo ad n8 q8 (hM.eq hst.1) (by omega) (by omega) eq8) (cwV 1 hts gX7_saying_X7_sayingBit rfl rfl rfl (by decide +kernel) ⟨Nat.le_of_ble_eq_true rfl, Nat.le_of_ble_eq_true rfl⟩) (zpreV hK hP hD hN (zrecv7 hK hP hM.1)) rfl rfl hl.1 rfl (lv_room (Nat.le_of_ble_eq_true rfl)) dX7_saying_15 ⟨Nat.le_of_ble_eq_true rfl, Nat.le_of_ble_eq_true rfl⟩)) (fun r3 hr3 => ?_)
    refine lv_istore_n (lv' := [(3, .int r3), (0, .ref mo), (1, .int (nI n8)), (2, .int v)]) hx hb dX7_saying_18 rfl hl (by decide) rfl (fun ls hl => ?_)
    refine lv_aload_n hx hb dX7_saying_19 rfl (lv_at hl 1 rfl) ?_
    refine zget (ci := 7) (C := RX7) (T := TX7) (N := 42) hx hb hts hi7 hown hK hP hM.1 rfl rfl 31 (by decide) (hts (.fieldLink RX7 98 "LinClusterModel" "before" "[I") (by decide +kernel)) (fun _ h9 => h9) (v := .ref (ad 31)) (congrArg (fun z => some (va_rf z)) (((hM.eq hst.1).2.1 31 (by decide)).1)) dX7_saying_20 ?_
    refine lv_iload_n hx hb dX7_saying_23 rfl (lv_at hl 2 rfl) ?_
    refine ziald hx hb hK hP (hM.2.1 31 (by decide)).2.1 (show G.2.2 (ad 31) = 8 from (hM.2.1 31 (by decide)).2.2) (vp_in_nI (n := n8) (N := 8) (by omega) (by omega)) dX7_saying_24 ?_
    refine lv_topi (fun v4 ev4 => ?_)
    rw [(nI_clamp (n := n8) (by omega))] at ev4
    refine lv_if_le (tgt := 44) hx hb dX7_saying_25 (by decide) (fun c5 => ?_) (fun c5 => ?_)
    · skip
      refine lv_iload_n hx hb dX7_saying_44 rfl (lv_at hl 0 rfl) ?_
      refine lv_iload_n hx hb dX7_saying_45 rfl (lv_at hl 3 rfl) ?_
      refine lv_icmp_eq (tgt := 62) hx hb dX7_saying_46 (by decide) (fun c6 => ?_) (fun c6 => ?_)
      · skip
        refine lv_aload_n hx hb dX7_saying_62 rfl (lv_at hl 1 rfl) ?_
        refine zget (ci := 7) (C := RX7) (T := TX7) (N := 42) hx hb hts hi7 hown hK hP hM.1 rfl rfl 30 (by decide) (hts (.fieldLink RX7 95 "LinClusterModel" "saidBits" "[I") (by decide +kernel)) (fun _ h9 => h9) (v := .ref (ad 30)) (congrArg (fun z => some (va_rf z)) (((hM.eq hst.1).2.1 30 (by decide)).1)) dX7_saying_63 ?_
        refine lv_iload_n hx hb dX7_saying_66 rfl (lv_at hl 2 rfl) ?_
        refine lv_dup2_11 hx hb dX7_saying_67 rfl rfl ?_
        refine ziald hx hb hK hP (hM.2.1 30 (by decide)).2.1 (show G.2.2 (ad 30) = 8 from (hM.2.1 30 (by decide)).2.2) (vp_in_nI (n := n8) (N := 8) (by omega) (by omega)) dX7_saying_68 ?_
        refine lv_topi (fun v7 ev7 => ?_)
        rw [(nI_clamp (n := n8) (by omega))] at ev7
        obtain rfl : v7 = (nI q8) := ev7.trans eq8
        refine lv_iconst (v := 1) hx hb dX7_saying_69 (by decide) ?_
        refine lv_iadd hx hb dX7_saying_70 ?_
        refine lv_topi (fun v8 ev8 => ?_)
        obtain rfl : v8 = nI (q8 + 1) := ev8.trans (nI_add q8 1)
        refine ziast (x := (nI (q8 + 1))) hx hb hK hP hD hS (hM.2.1 30 (by decide)).2.1 (show G.2.2 (ad 30) = 8 from (hM.2.1 30 (by decide)).2.2) (vp_in_nI (n := n8) (N := 8) (by omega) (by omega)) dX7_saying_71 (fun H locs hP hD hS => ?_)
        rw [(nI_clamp (n := n8) (by omega))] at hP hD
        have hst := zC.pa hM hst (k := 30) (by decide) (by decide) n8 (nI (q8 + 1))
        have kn9 := zpi_o hM S (i := 2) (k := 30) (by decide) (by decide) (by decide) n8 (nI (q8 + 1)) eL8
        have kn10 := zpi_o hM S (i := 28) (k := 30) (by decide) (by decide) (by decide) n8 (nI (q8 + 1)) ei8
        have kn11 := zpi_o hM S (i := 16) (k := 30) (by decide) (by decide) (by decide) n8 (nI (q8 + 1)) hat
        have hI := hI.ix hn8
        have hI := hI.sb hM (nI (q8 + 1))
        have kn12 := zpi_s S (ad 30) n8 (nI (q8 + 1))
        refine lv_aload_n hx hb dX7_saying_72 rfl (lv_at hl 1 rfl) ?_
        refine zget (ci := 7) (C := RX7) (T := TX7) (N := 42) hx hb hts hi7 hown hK hP hM.1 rfl rfl 28 (by decide) (hts (.fieldLink RX7 89 "LinClusterModel" "idAt" "[I") (by decide +kernel)) (fun _ h9 => h9) (v := .ref (ad 28)) (congrArg (fun z => some (va_rf z)) (((hM.eq hst.1).2.1 28 (by decide)).1)) dX7_saying_73 ?_
        refine lv_iload_n hx hb dX7_saying_76 rfl (lv_at hl 2 rfl) ?_
        refine ziald hx hb hK hP (hM.2.1 28 (by decide)).2.1 (show G.2.2 (ad 28) = 8 from (hM.2.1 28 (by decide)).2.2) (vp_in_nI (n := n8) (N := 8) (by omega) (by omega)) dX7_saying_77 ?_
        refine lv_topi (fun v13 ev13 => ?_)
        rw [(nI_clamp (n := n8) (by omega))] at ev13
        obtain rfl : v13 = (nI i8) := ev13.trans kn10
        refine lv_istore (lv' := [(4, .int (nI i8)), (3, .int r3), (0, .ref mo), (1, .int (nI n8)), (2, .int v)]) hx hb dX7_saying_78 hl (by decide) rfl (fun ls hl => ?_)
        refine lv_aload_n hx hb dX7_saying_80 rfl (lv_at hl 2 rfl) ?_
        refine zget (ci := 7) (C := RX7) (T := TX7) (N := 42) hx hb hts hi7 hown hK hP hM.1 rfl rfl 30 (by decide) (hts (.fieldLink RX7 95 "LinClusterModel" "saidBits" "[I") (by decide +kernel)) (fun _ h9 => h9) (v := .ref (ad 30)) (congrArg (fun z => some (va_rf z)) (((hM.eq hst.1).2.1 30 (by decide)).1)) dX7_saying_81 ?_
        refine lv_iload_n hx hb dX7_saying_84 rfl (lv_at hl 3 rfl) ?_
        refine ziald hx hb hK hP (hM.2.1 30 (by decide)).2.1 (show G.2.2 (ad 30) = 8 from (hM.2.1 30 (by decide)).2.2) (vp_in_nI (n := n8) (N := 8) (by omega) (by omega)) dX7_saying_85 ?_
        refine lv_topi (fun v14 ev14 => ?_)
        rw [(nI_clamp (n := n8) (by omega))] at ev14
        obtain rfl : v14 = (nI (q8 + 1)) := ev14.trans kn12
        refine lv_bipush (v := 10) hx hb dX7_saying_86 (by decide) ?_
        refine lv_aload_n hx hb dX7_saying_88 rfl (lv_at hl 2 rfl) ?_
        refine zget (ci := 7) (C := RX7) (T := TX7) (N := 42) hx hb hts hi7 hown hK hP hM.1 rfl rfl 2 (by decide) (hts (.fieldLink RX7 13 "LinClusterModel" "lengths" "[I") (by decide +kernel)) (fun _ h9 => h9) (v := .ref (ad 2)) (congrArg (fun z => some (va_rf z)) (((hM.eq hst.1).2.1 2 (by decide)).1)) dX7_saying_89 ?_
        refine lv_iload hx hb dX7_saying_92 (lv_at hl 0 rfl) ?_
        refine ziald hx hb hK hP (hM.2.1 2 (by decide)).2.1 (show G.2.2 (ad 2) = 62 from (hM.2.1 2 (by decide)).2.2) (vp_in_nI (n := i8) (N := 62) (by omega) (by omega)) dX7_saying_94 ?_
        refine lv_topi (fun v15 ev15 => ?_)
        rw [(nI_clamp (n := i8) (by omega))] at ev15
        obtain rfl : v15 = (nI L8) := ev15.trans kn9
        refine lv_iconst (v := 1) hx hb dX7_saying_95 (by decide) ?_
        refine lv_iadd hx hb dX7_saying_96 ?_
        refine lv_topi (fun v16 ev16 => ?_)
        obtain rfl : v16 = nI (L8 + 1) := ev16.trans (nI_add L8 1)
        refine lv_imul hx hb dX7_saying_97 ?_
        refine lv_topi (fun v17 ev17 => ?_)
        obtain rfl : v17 = nI (10 * (L8 + 1)) := ev17.trans (pk_mul 10 (L8 + 1))
        refine lv_icmp_ne (tgt := 156) hx hb dX7_saying_98 (by decide) (fun c18 => ?_) (fun c18 => ?_)
        · skip
          have hI := hI.close (fun i L ei hi eL hL => by
            have e1 : i = i8 := (nI_eq (by omega) (by omega)).mp (ei.symm.trans kn10)
            subst e1
            have e2 : L = L8 := (nI_eq (by omega) (by omega)).mp (eL.symm.trans kn9)
            subst e2
            refine ⟨fun _ => ⟨(q8 + 1), kn12, ?_⟩, fun z9 => absurd (kn11.symm.trans z9) (by decide)⟩
            have hne : q8 + 1 ≠ 10 * (L + 1) := fun z9 => c18 (by rw [z9])
            omega)
          exact W.vret hx hb hr (fun t ht hW => ⟨⟨(zpi S (ad 30) n8 (nI (q8 + 1))), rfl, ⟨hst, hI⟩, by rw [ht]; exact hP, va_K.moved hW.alike hK, hD⟩, hS.F ht⟩) hS.2.2 dX7_saying_156
        · skip
          refine lv_aload_n hx hb dX7_saying_101 rfl (lv_at hl 2 rfl) ?_
          refine zget (ci := 7) (C := RX7) (T := TX7) (N := 42) hx hb hts hi7 hown hK hP hM.1 rfl rfl 19 (by decide) (hts (.fieldLink RX7 62 "LinClusterModel" "said" "[I") (by decide +kernel)) (fun _ h9 => h9) (v := .ref (ad 19)) (congrArg (fun z => some (va_rf z)) (((hM.eq hst.1).2.1 19 (by decide)).1)) dX7_saying_102 ?_
          refine lv_iload_n hx hb dX7_saying_105 rfl (lv_at hl 3 rfl) ?_
          refine lv_dup2_11 hx hb dX7_saying_106 rfl rfl ?_
          refine ziald hx hb hK hP (hM.2.1 19 (by decide)).2.1 (show G.2.2 (ad 19) = 8 from (hM.2.1 19 (by decide)).2.2) (vp_in_nI (n := n8) (N := 8) (by omega) (by omega)) dX7_saying_107 ?_
          refine lv_topi (fun v19 ev19 => ?_)
          rw [(nI_clamp (n := n8) (by omega))] at ev19
          refine lv_iconst (v := 1) hx hb dX7_saying_108 (by decide) ?_
          refine lv_iadd hx hb dX7_saying_109 ?_
          refine lv_topi (fun v20 ev20 => ?_)
          refine ziast (x := v20) hx hb hK hP hD hS (hM.2.1 19 (by decide)).2.1 (show G.2.2 (ad 19) = 8 from (hM.2.1 19 (by decide)).2.2) (vp_in_nI (n := n8) (N := 8) (by omega) (by omega)) dX7_saying_110 (fun H locs hP hD hS => ?_)
          rw [(nI_clamp (n := n8) (by omega))] at hP hD
          have hst := zC.pa hM hst (k := 19) (by decide) (by decide) n8 v20
          have kn21 := zpi_o hM (zpi S (ad 30) n8 (nI (q8 + 1))) (i := 2) (k := 19) (by decide) (by decide) (by decide) n8 v20 kn9
          have kn22 := zpi_o hM (zpi S (ad 30) n8 (nI (q8 + 1))) (i := 28) (k := 19) (by decide) (by decide) (by decide) n8 v20 kn10
          have kn23 := zpi_o hM (zpi S (ad 30) n8 (nI (q8 + 1))) (i := 16) (k := 19) (by decide) (by decide) (by decide) n8 v20 kn11
          have kn24 := zpi_o hM (zpi S (ad 30) n8 (nI (q8 + 1))) (i := 30) (k := 19) (by decide) (by decide) (by decide) n8 v20 kn12
          have hI := hI.free hM (k := 19) (by decide) (by decide) n8 v20
          have kn25 := zpi_s (zpi S (ad 30) n8 (nI (q8 + 1))) (ad 19) n8 v20
          refine lv_aload_n hx hb dX7_saying_111 rfl (lv_at hl 2 rfl) ?_
          refine zget (ci := 7) (C := RX7) (T := TX7) (N := 42) hx hb hts hi7 hown hK hP hM.1 rfl rfl 17 (by decide) (hts (.fieldLink RX7 56 "LinClusterModel" "errors" "[Z") (by decide +kernel)) (fun _ h9 => h9) (v := .ref (ad 17)) (congrArg (fun z => some (va_rf z)) (((hM.eq hst.1).2.1 17 (by decide)).1)) dX7_saying_112 ?_
          refine lv_iload_n hx hb dX7_saying_115 rfl (lv_at hl 3 rfl) ?_
          refine lv_aload_n hx hb dX7_saying_116 rfl (lv_at hl 2 rfl) ?_
          refine zget (ci := 7) (C := RX7) (T := TX7) (N := 42) hx hb hts hi7 hown hK hP hM.1 rfl rfl 17 (by decide) (hts (.fieldLink RX7 56 "LinClusterModel" "errors" "[Z") (by decide +kernel)) (fun _ h9 => h9) (v := .ref (ad 17)) (congrArg (fun z => some (va_rf z)) (((hM.eq hst.1).2.1 17 (by decide)).1)) dX7_saying_117 ?_
          refine lv_iload_n hx hb dX7_saying_120 rfl (lv_at hl 3 rfl) ?_
          refine zzald hx hb hK hP (hM.2.1 17 (by decide)).2.1 (show G.2.2 (ad 17) = 8 from (hM.2.1 17 (by decide)).2.2) (vp_in_nI (n := n8) (N := 8) (by omega) (by omega)) dX7_saying_121 ?_
          refine lv_topi (fun v26 ev26 => ?_)
          rw [(nI_clamp (n := n8) (by omega))] at ev26
          refine lv_if_eq (tgt := 140) hx hb dX7_saying_122 (by decide) (fun c27 => ?_) (fun c27 => ?_)
          · skip
            have kn28 := ev26.symm.trans c27
            refine lv_iconst (v := 0) hx hb dX7_saying_140 (by decide) ?_
            refine zzast (x := 0) hx hb hK hP hD hS (hM.2.1 17 (by decide)).2.1 (show G.2.2 (ad 17) = 8 from (hM.2.1 17 (by decide)).2.2) (vp_in_nI (n := n8) (N := 8) (by omega) (by omega)) dX7_saying_141 (fun H locs hP hD hS => ?_)
            rw [(nI_clamp (n := n8) (by omega))] at hP hD
            have hst := zC.pa hM hst (k := 17) (by decide) (by decide) n8 (vp_nar .boolean 0)
            have kn29 := zpi_o hM (zpi (zpi S (ad 30) n8 (nI (q8 + 1))) (ad 19) n8 v20) (i := 2) (k := 17) (by decide) (by decide) (by decide) n8 (vp_nar .boolean 0) kn21
            have kn30 := zpi_o hM (zpi (zpi S (ad 30) n8 (nI (q8 + 1))) (ad 19) n8 v20) (i := 28) (k := 17) (by decide) (by decide) (by decide) n8 (vp_nar .boolean 0) kn22
            have kn31 := zpi_o hM (zpi (zpi S (ad 30) n8 (nI (q8 + 1))) (ad 19) n8 v20) (i := 16) (k := 17) (by decide) (by decide) (by decide) n8 (vp_nar .boolean 0) kn23
            have kn32 := zpi_o hM (zpi (zpi S (ad 30) n8 (nI (q8 + 1))) (ad 19) n8 v20) (i := 30) (k := 17) (by decide) (by decide) (by decide) n8 (vp_nar .boolean 0) kn24
            have kn33 := zpi_o hM (zpi (zpi S (ad 30) n8 (nI (q8 + 1))) (ad 19) n8 v20) (i := 19) (k := 17) (by decide) (by decide) (by decide) n8 (vp_nar .boolean 0) kn25
            have hI := hI.free hM (k := 17) (by decide) (by decide) n8 (vp_nar .boolean 0)
            have kn34 := zpi_s (zpi (zpi S (ad 30) n8 (nI (q8 + 1))) (ad 19) n8 v20) (ad 17) n8 (vp_nar .boolean 0)
            refine lv_aload_n hx hb dX7_saying_142 rfl (lv_at hl 2 rfl) ?_
            refine zget (ci := 7) (C := RX7) (T := TX7) (N := 42) hx hb hts hi7 hown hK hP hM.1 rfl rfl 16 (by decide) (hts (.fieldLink RX7 53 "LinClusterModel" "at" "[I") (by decide +kernel)) (fun _ h9 => h9) (v := .ref (ad 16)) (congrArg (fun z => some (va_rf z)) (((hM.eq hst.1).2.1 16 (by decide)).1)) dX7_saying_143 ?_
            refine lv_iload_n hx hb dX7_saying_146 rfl (lv_at hl 3 rfl) ?_
            refine lv_iconst (v := 1) hx hb dX7_saying_147 (by decide) ?_
            refine ziast (x := 1) hx hb hK hP hD hS (hM.2.1 16 (by decide)).2.1 (show G.2.2 (ad 16) = 8 from (hM.2.1 16 (by decide)).2.2) (vp_in_nI (n := n8) (N := 8) (by omega) (by omega)) dX7_saying_148 (fun H locs hP hD hS => ?_)
            rw [(nI_clamp (n := n8) (by omega))] at hP hD
            have hst := zC.pa hM hst (k := 16) (by decide) (by decide) n8 1
            have kn35 := zpi_o hM (zpi (zpi (zpi S (ad 30) n8 (nI (q8 + 1))) (ad 19) n8 v20) (ad 17) n8 (vp_nar .boolean 0)) (i := 2) (k := 16) (by decide) (by decide) (by decide) n8 1 kn29
            have kn36 := zpi_o hM (zpi (zpi (zpi S (ad 30) n8 (nI (q8 + 1))) (ad 19) n8 v20) (ad 17) n8 (vp_nar .boolean 0)) (i := 28) (k := 16) (by decide) (by decide) (by decide) n8 1 kn30
            have kn37 := zpi_o hM (zpi (zpi (zpi S (ad 30) n8 (nI (q8 + 1))) (ad 19) n8 v20) (ad 17) n8 (vp_nar .boolean 0)) (i := 30) (k := 16) (by decide) (by decide) (by decide) n8 1 kn32
            have kn38 := zpi_o hM (zpi (zpi (zpi S (ad 30) n8 (nI (q8 + 1))) (ad 19) n8 v20) (ad 17) n8 (vp_nar .boolean 0)) (i := 19) (k := 16) (by decide) (by decide) (by decide) n8 1 kn33
            have kn39 := zpi_o hM (zpi (zpi (zpi S (ad 30) n8 (nI (q8 + 1))) (ad 19) n8 v20) (ad 17) n8 (vp_nar .boolean 0)) (i := 17) (k := 16) (by decide) (by decide) (by decide) n8 1 kn34
            have hI := hI.at hM (v := 1) (by decide) (by decide)
            have kn40 := zpi_s (zpi (zpi (zpi S (ad 30) n8 (nI (q8 + 1))) (ad 19) n8 v20) (ad 17) n8 (vp_nar .boolean 0)) (ad 16) n8 1
            refine lv_aload_n hx hb dX7_saying_149 rfl (lv_at hl 2 rfl) ?_
            refine lv_iload_n hx hb dX7_saying_150 rfl (lv_at hl 3 rfl) ?_
            refine lv_iload hx hb dX7_saying_151 (lv_at hl 0 rfl) ?_
            refine zcallv (va_runV (As := [.int (nI n8), .int (nI i8)]) (rest := []) ⟨hx, hb, hml, hown, hts⟩ (c_X7_rests l dC dI cy G (zpi (zpi (zpi (zpi S (ad 30) n8 (nI (q8 + 1))) (ad 19) n8 v20) (ad 17) n8 (vp_nar .boolean 0)) (ad 16) n8 1) H.size mo ad n8 (nI i8) (hM.eq hst.1) hI (by omega)) (cwV 2 hts gX7_saying_X7_rests rfl rfl rfl (by decide +kernel) ⟨Nat.le_of_ble_eq_true rfl, Nat.le_of_ble_eq_true rfl⟩) (zpreV hK hP hD hN (zrecv7 hK hP hM.1)) rfl rfl hl.1 rfl (lv_room (Nat.le_of_ble_eq_true rfl)) dX7_saying_153 ⟨Nat.le_of_ble_eq_true rfl, Nat.le_of_ble_eq_true rfl⟩) hS hD hA (fun S42 H locs hr41 hP hD hS => ?_)
            have hst := hst.trans (hr41.1.mono (by decide) (by decide))
            have hI := hr41.2
            have kn43 := (congrFun (hr41.1.2.1 2 (by decide) (by decide)) i8).trans kn35
            have kn44 := (congrFun (hr41.1.2.1 28 (by decide) (by decide)) n8).trans kn36
            have kn45 := (congrFun (hr41.1.2.1 30 (by decide) (by decide)) n8).trans kn37
            have kn46 := (congrFun (hr41.1.2.1 19 (by decide) (by decide)) n8).trans kn38
            have kn47 := (congrFun (hr41.1.2.1 17 (by decide) (by decide)) n8).trans kn39
            exact W.vret hx hb hr (fun t ht hW => ⟨⟨S42, rfl, ⟨hst, hI⟩, by rw [ht]; exact hP, va_K.moved hW.alike hK, hD⟩, hS.F ht⟩) hS.2.2 dX7_saying_156
          · skip
            refine lv_aload_n hx hb dX7_saying_125 rfl (lv_at hl 2 rfl) ?_
            refine zget (ci := 7) (C := RX7) (T := TX7) (N := 42) hx hb hts hi7 hown hK hP hM.1 rfl rfl 13 (by decide) (hts (.fieldLink RX7 44 "LinClusterModel" "statusIds" "[I") (by decide +kernel)) (fun _ h9 => h9) (v := .ref (ad 13)) (congrArg (fun z => some (va_rf z)) (((hM.eq hst.1).2.1 13 (by decide)).1)) dX7_saying_126 ?_
            refine lv_iload_n hx hb dX7_saying_129 rfl (lv_at hl 3 rfl) ?_
            refine ziald hx hb hK hP (hM.2.1 13 (by decide)).2.1 (show G.2.2 (ad 13) = 8 from (hM.2.1 13 (by decide)).2.2) (vp_in_nI (n := n8) (N := 8) (by omega) (by omega)) dX7_saying_130 ?_
            refine lv_topi (fun v48 ev48 => ?_)
            rw [(nI_clamp (n := n8) (by omega))] at ev48
            refine lv_iload hx hb dX7_saying_131 (lv_at hl 0 rfl) ?_
            refine lv_icmp_eq (tgt := 140) hx hb dX7_saying_133 (by decide) (fun c49 => ?_) (fun c49 => ?_)
            · skip
              refine lv_iconst (v := 0) hx hb dX7_saying_140 (by decide) ?_
              refine zzast (x := 0) hx hb hK hP hD hS (hM.2.1 17 (by decide)).2.1 (show G.2.2 (ad 17) = 8 from (hM.2.1 17 (by decide)).2.2) (vp_in_nI (n := n8) (N := 8) (by omega) (by omega)) dX7_saying_141 (fun H locs hP hD hS => ?_)
              rw [(nI_clamp (n := n8) (by omega))] at hP hD
              have hst := zC.pa hM hst (k := 17) (by decide) (by decide) n8 (vp_nar .boolean 0)
              have kn50 := zpi_o hM (zpi (zpi S (ad 30) n8 (nI (q8 + 1))) (ad 19) n8 v20) (i := 2) (k := 17) (by decide) (by decide) (by decide) n8 (vp_nar .boolean 0) kn21
              have kn51 := zpi_o hM (zpi (zpi S (ad 30) n8 (nI (q8 + 1))) (ad 19) n8 v20) (i := 28) (k := 17) (by decide) (by decide) (by decide) n8 (vp_nar .boolean 0) kn22
              have kn52 := zpi_o hM (zpi (zpi S (ad 30) n8 (nI (q8 + 1))) (ad 19) n8 v20) (i := 16) (k := 17) (by decide) (by decide) (by decide) n8 (vp_nar .boolean 0) kn23
              have kn53 := zpi_o hM (zpi (zpi S (ad 30) n8 (nI (q8 + 1))) (ad 19) n8 v20) (i := 30) (k := 17) (by decide) (by decide) (by decide) n8 (vp_nar .boolean 0) kn24
              have kn54 := zpi_o hM (zpi (zpi S (ad 30) n8 (nI (q8 + 1))) (ad 19) n8 v20) (i := 19) (k := 17) (by decide) (by decide) (by decide) n8 (vp_nar .boolean 0) kn25
              have hI := hI.free hM (k := 17) (by decide) (by decide) n8 (vp_nar .boolean 0)
              have kn55 := zpi_s (zpi (zpi S (ad 30) n8 (nI (q8 + 1))) (ad 19) n8 v20) (ad 17) n8 (vp_nar .boolean 0)
              refine lv_aload_n hx hb dX7_saying_142 rfl (lv_at hl 2 rfl) ?_
              refine zget (ci := 7) (C := RX7) (T := TX7) (N := 42) hx hb hts hi7 hown hK hP hM.1 rfl rfl 16 (by decide) (hts (.fieldLink RX7 53 "LinClusterModel" "at" "[I") (by decide +kernel)) (fun _ h9 => h9) (v := .ref (ad 16)) (congrArg (fun z => some (va_rf z)) (((hM.eq hst.1).2.1 16 (by decide)).1)) dX7_saying_143 ?_
              refine lv_iload_n hx hb dX7_saying_146 rfl (lv_at hl 3 rfl) ?_
              refine lv_iconst (v := 1) hx hb dX7_saying_147 (by decide) ?_
              refine ziast (x := 1) hx hb hK hP hD hS (hM.2.1 16 (by decide)).2.1 (show G.2.2 (ad 16) = 8 from (hM.2.1 16 (by decide)).2.2) (vp_in_nI (n := n8) (N := 8) (by omega) (by omega)) dX7_saying_148 (fun H locs hP hD hS => ?_)
              rw [(nI_clamp (n := n8) (by omega))] at hP hD
              have hst := zC.pa hM hst (k := 16) (by decide) (by decide) n8 1
              have kn56 := zpi_o hM (zpi (zpi (zpi S (ad 30) n8 (nI (q8 + 1))) (ad 19) n8 v20) (ad 17) n8 (vp_nar .boolean 0)) (i := 2) (k := 16) (by decide) (by decide) (by decide) n8 1 kn50
              have kn57 := zpi_o hM (zpi (zpi (zpi S (ad 30) n8 (nI (q8 + 1))) (ad 19) n8 v20) (ad 17) n8 (vp_nar .boolean 0)) (i := 28) (k := 16) (by decide) (by decide) (by decide) n8 1 kn51
              have kn58 := zpi_o hM (zpi (zpi (zpi S (ad 30) n8 (nI (q8 + 1))) (ad 19) n8 v20) (ad 17) n8 (vp_nar .boolean 0)) (i := 30) (k := 16) (by decide) (by decide) (by decide) n8 1 kn53
              have kn59 := zpi_o hM (zpi (zpi (zpi S (ad 30) n8 (nI (q8 + 1))) (ad 19) n8 v20) (ad 17) n8 (vp_nar .boolean 0)) (i := 19) (k := 16) (by decide) (by decide) (by decide) n8 1 kn54
              have kn60 := zpi_o hM (zpi (zpi (zpi S (ad 30) n8 (nI (q8 + 1))) (ad 19) n8 v20) (ad 17) n8 (vp_nar .boolean 0)) (i := 17) (k := 16) (by decide) (by decide) (by decide) n8 1 kn55
              have hI := hI.at hM (v := 1) (by decide) (by decide)
              have kn61 := zpi_s (zpi (zpi (zpi S (ad 30) n8 (nI (q8 + 1))) (ad 19) n8 v20) (ad 17) n8 (vp_nar .boolean 0)) (ad 16) n8 1
              refine lv_aload_n hx hb dX7_saying_149 rfl (lv_at hl 2 rfl) ?_
              refine lv_iload_n hx hb dX7_saying_150 rfl (lv_at hl 3 rfl) ?_
              refine lv_iload hx hb dX7_saying_151 (lv_at hl 0 rfl) ?_
              refine zcallv (va_runV (As := [.int (nI n8), .int (nI i8)]) (rest := []) ⟨hx, hb, hml, hown, hts⟩ (c_X7_rests l dC dI cy G (zpi (zpi (zpi (zpi S (ad 30) n8 (nI (q8 + 1))) (ad 19) n8 v20) (ad 17) n8 (vp_nar .boolean 0)) (ad 16) n8 1) H.size mo ad n8 (nI i8) (hM.eq hst.1) hI (by omega)) (cwV 2 hts gX7_saying_X7_rests rfl rfl rfl (by decide +kernel) ⟨Nat.le_of_ble_eq_true rfl, Nat.le_of_ble_eq_true rfl⟩) (zpreV hK hP hD hN (zrecv7 hK hP hM.1)) rfl rfl hl.1 rfl (lv_room (Nat.le_of_ble_eq_true rfl)) dX7_saying_153 ⟨Nat.le_of_ble_eq_true rfl, Nat.le_of_ble_eq_true rfl⟩) hS hD hA (fun S63 H locs hr62 hP hD hS => ?_)
              have hst := hst.trans (hr62.1.mono (by decide) (by decide))
              have hI := hr62.2
              have kn64 := (congrFun (hr62.1.2.1 2 (by decide) (by decide)) i8).trans kn56
              have kn65 := (congrFun (hr62.1.2.1 28 (by decide) (by decide)) n8).trans kn57
              have kn66 := (congrFun (hr62.1.2.1 30 (by decide) (by decide)) n8).trans kn58
              have kn67 := (congrFun (hr62.1.2.1 19 (by decide) (by decide)) n8).trans kn59
              have kn68 := (congrFun (hr62.1.2.1 17 (by decide) (by decide)) n8).trans kn60
              exact W.vret hx hb hr (fun t ht hW => ⟨⟨S63, rfl, ⟨hst, hI⟩, by rw [ht]; exact hP, va_K.moved hW.alike hK, hD⟩, hS.F ht⟩) hS.2.2 dX7_saying_156
            · skip
              refine lv_iconst (v := 1) hx hb dX7_saying_136 (by decide) ?_
              refine lv_goto (tgt := 141) hx hb dX7_saying_137 (by decide) ?_
              refine zzast (x := 1) hx hb hK hP hD hS (hM.2.1 17 (by decide)).2.1 (show G.2.2 (ad 17) = 8 from (hM.2.1 17 (by decide)).2.2) (vp_in_nI (n := n8) (N := 8) (by omega) (by omega)) dX7_saying_141 (fun H locs hP hD hS => ?_)
              rw [(nI_clamp (n := n8) (by omega))] at hP hD
              have hst := zC.pa hM hst (k := 17) (by decide) (by decide) n8 (vp_nar .boolean 1)
              have kn69 := zpi_o hM (zpi (zpi S (ad 30) n8 (nI (q8 + 1))) (ad 19) n8 v20) (i := 2) (k := 17) (by decide) (by decide) (by decide) n8 (vp_nar .boolean 1) kn21
              have kn70 := zpi_o hM (zpi (zpi S (ad 30) n8 (nI (q8 + 1))) (ad 19) n8 v20) (i := 28) (k := 17) (by decide) (by decide) (by decide) n8 (vp_nar .boolean 1) kn22
              have kn71 := zpi_o hM (zpi (zpi S (ad 30) n8 (nI (q8 + 1))) (ad 19) n8 v20) (i := 16) (k := 17) (by decide) (by decide) (by decide) n8 (vp_nar .boolean 1) kn23
              have kn72 := zpi_o hM (zpi (zpi S (ad 30) n8 (nI (q8 + 1))) (ad 19) n8 v20) (i := 30) (k := 17) (by decide) (by decide) (by decide) n8 (vp_nar .boolean 1) kn24
              have kn73 := zpi_o hM (zpi (zpi S (ad 30) n8 (nI (q8 + 1))) (ad 19) n8 v20) (i := 19) (k := 17) (by decide) (by decide) (by decide) n8 (vp_nar .boolean 1) kn25
              have hI := hI.free hM (k := 17) (by decide) (by decide) n8 (vp_nar .boolean 1)
              have kn74 := zpi_s (zpi (zpi S (ad 30) n8 (nI (q8 + 1))) (ad 19) n8 v20) (ad 17) n8 (vp_nar .boolean 1)
              refine lv_aload_n hx hb dX7_saying_142 rfl (lv_at hl 2 rfl) ?_
              refine zget (ci := 7) (C := RX7) (T := TX7) (N := 42) hx hb hts hi7 hown hK hP hM.1 rfl rfl 16 (by decide) (hts (.fieldLink RX7 53 "LinClusterModel" "at" "[I") (by decide +kernel)) (fun _ h9 => h9) (v := .ref (ad 16)) (congrArg (fun z => some (va_rf z)) (((hM.eq hst.1).2.1 16 (by decide)).1)) dX7_saying_143 ?_
              refine lv_iload_n hx hb dX7_saying_146 rfl (lv_at hl 3 rfl) ?_
              refine lv_iconst (v := 1) hx hb dX7_saying_147 (by decide) ?_
              refine ziast (x := 1) hx hb hK hP hD hS (hM.2.1 16 (by decide)).2.1 (show G.2.2 (ad 16) = 8 from (hM.2.1 16 (by decide)).2.2) (vp_in_nI (n := n8) (N := 8) (by omega) (by omega)) dX7_saying_148 (fun H locs hP hD hS => ?_)
              rw [(nI_clamp (n := n8) (by omega))] at hP hD
              have hst := zC.pa hM hst (k := 16) (by decide) (by decide) n8 1
              have kn75 := zpi_o hM (zpi (zpi (zpi S (ad 30) n8 (nI (q8 + 1))) (ad 19) n8 v20) (ad 17) n8 (vp_nar .boolean 1)) (i := 2) (k := 16) (by decide) (by decide) (by decide) n8 1 kn69
              have kn76 := zpi_o hM (zpi (zpi (zpi S (ad 30) n8 (nI (q8 + 1))) (ad 19) n8 v20) (ad 17) n8 (vp_nar .boolean 1)) (i := 28) (k := 16) (by decide) (by decide) (by decide) n8 1 kn70
              have kn77 := zpi_o hM (zpi (zpi (zpi S (ad 30) n8 (nI (q8 + 1))) (ad 19) n8 v20) (ad 17) n8 (vp_nar .boolean 1)) (i := 30) (k := 16) (by decide) (by decide) (by decide) n8 1 kn72
              have kn78 := zpi_o hM (zpi (zpi (zpi S (ad 30) n8 (nI (q8 + 1))) (ad 19) n8 v20) (ad 17) n8 (vp_nar .boolean 1)) (i := 19) (k := 16) (by decide) (by decide) (by decide) n8 1 kn73
              have kn79 := zpi_o hM (zpi (zpi (zpi S (ad 30) n8 (nI (q8 + 1))) (ad 19) n8 v20) (ad 17) n8 (vp_nar .boolean 1)) (i := 17) (k := 16) (by decide) (by decide) (by decide) n8 1 kn74
              have hI := hI.at hM (v := 1) (by decide) (by decide)
              have kn80 := zpi_s (zpi (zpi (zpi S (ad 30) n8 (nI (q8 + 1))) (ad 19) n8 v20) (ad 17) n8 (vp_nar .boolean 1)) (ad 16) n8 1
              refine lv_aload_n hx hb dX7_saying_149 rfl (lv_at hl 2 rfl) ?_
              refine lv_iload_n hx hb dX7_saying_150 rfl (lv_at hl 3 rfl) ?_
              refine lv_iload hx hb dX7_saying_151 (lv_at hl 0 rfl) ?_
              refine zcallv (va_runV (As := [.int (nI n8), .int (nI i8)]) (rest := []) ⟨hx, hb, hml, hown, hts⟩ (c_X7_rests l dC dI cy G (zpi (zpi (zpi (zpi S (ad 30) n8 (nI (q8 + 1))) (ad 19) n8 v20) (ad 17) n8 (vp_nar .boolean 1)) (ad 16) n8 1) H.size mo ad n8 (nI i8) (hM.eq hst.1) hI (by omega)) (cwV 2 hts gX7_saying_X7_rests rfl rfl rfl (by decide +kernel) ⟨Nat.le_of_ble_eq_true rfl, Nat.le_of_ble_eq_true rfl⟩) (zpreV hK hP hD hN (zrecv7 hK hP hM.1)) rfl rfl hl.1 rfl (lv_room (Nat.le_of_ble_eq_true rfl)) dX7_saying_153 ⟨Nat.le_of_ble_eq_true rfl, Nat.le_of_ble_eq_true rfl⟩) hS hD hA (fun S82 H locs hr81 hP hD hS => ?_)
              have hst := hst.trans (hr81.1.mono (by decide) (by decide))
              have hI := hr81.2
              have kn83 := (congrFun (hr81.1.2.1 2 (by decide) (by decide)) i8).trans kn75
              have kn84 := (congrFun (hr81.1.2.1 28 (by decide) (by decide)) n8).trans kn76
              have kn85 := (congrFun (hr81.1.2.1 30 (by decide) (by decide)) n8).trans kn77
              have kn86 := (congrFun (hr81.1.2.1 19 (by decide) (by decide)) n8).trans kn78
              have kn87 := (congrFun (hr81.1.2.1 17 (by decide) (by decide)) n8).trans kn79
              exact W.vret hx hb hr (fun t ht hW => ⟨⟨S82, rfl, ⟨hst, hI⟩, by rw [ht]; exact hP, va_K.moved hW.alike hK, hD⟩, hS.F ht⟩) hS.2.2 dX7_saying_156
      · skip
        refine lv_aload_n hx hb dX7_saying_49 rfl (lv_at hl 1 rfl) ?_
        refine lv_iload_n hx hb dX7_saying_50 rfl (lv_at hl 2 rfl) ?_
        refine zcallv (va_runV (As := [.int (nI n8)]) (rest := []) ⟨hx, hb, hml, hown, hts⟩ (c_X7_error l dC dI cy G S s.heap.size mo ad n8 (hM.eq hst.1) (by omega)) (cwV 1 hts gX7_saying_X7_error rfl rfl rfl (by decide +kernel) ⟨Nat.le_of_ble_eq_true rfl, Nat.le_of_ble_eq_true rfl⟩) (zpreV hK hP hD hN (zrecv7 hK hP hM.1)) rfl rfl hl.1 rfl (lv_room (Nat.le_of_ble_eq_true rfl)) dX7_saying_51 ⟨Nat.le_of_ble_eq_true rfl, Nat.le_of_ble_eq_true rfl⟩) hS hD hA (fun S89 H locs hr88 hP hD hS => ?_)
        have hst := hst.trans (hr88.mono (by decide) (by decide))
        have hI := hI.c hr88 (by decide) (by decide)
        have kn90 := (congrFun (hr88.2.1 2 (by decide) (by decide)) i8).trans eL8
        have kn91 := (congrFun (hr88.2.1 28 (by decide) (by decide)) n8).trans ei8
        have kn92 := (congrFun (hr88.2.1 16 (by decide) (by decide)) n8).trans hat
        have kn93 := (congrFun (hr88.2.1 30 (by decide) (by decide)) n8).trans eq8
        refine lv_aload_n hx hb dX7_saying_54 rfl (lv_at hl 1 rfl) ?_
        refine zget (ci := 7) (C := RX7) (T := TX7) (N := 42) hx hb hts hi7 hown hK hP hM.1 rfl rfl 16 (by decide) (hts (.fieldLink RX7 53 "LinClusterModel" "at" "[I") (by decide +kernel)) (fun _ h9 => h9) (v := .ref (ad 16)) (congrArg (fun z => some (va_rf z)) (((hM.eq hst.1).2.1 16 (by decide)).1)) dX7_saying_55 ?_
        refine lv_iload_n hx hb dX7_saying_58 rfl (lv_at hl 2 rfl) ?_
        refine lv_iconst (v := 1) hx hb dX7_saying_59 (by decide) ?_
        refine ziast (x := 1) hx hb hK hP hD hS (hM.2.1 16 (by decide)).2.1 (show G.2.2 (ad 16) = 8 from (hM.2.1 16 (by decide)).2.2) (vp_in_nI (n := n8) (N := 8) (by omega) (by omega)) dX7_saying_60 (fun H locs hP hD hS => ?_)
        rw [(nI_clamp (n := n8) (by omega))] at hP hD
        have hst := zC.pa hM hst (k := 16) (by decide) (by decide) n8 1
        have kn94 := zpi_o hM S89 (i := 2) (k := 16) (by decide) (by decide) (by decide) n8 1 kn90
        have kn95 := zpi_o hM S89 (i := 28) (k := 16) (by decide) (by decide) (by decide) n8 1 kn91
        have kn96 := zpi_o hM S89 (i := 30) (k := 16) (by decide) (by decide) (by decide) n8 1 kn93
        have hI := hI.at hM hn8 (v := 1) (by decide) (by decide)
        have kn97 := zpi_s S89 (ad 16) n8 1
        exact W.vret hx hb hr (fun t ht hW => ⟨⟨(zpi S89 (ad 16) n8 1), rfl, ⟨hst, hI⟩, by rw [ht]; exact hP, va_K.moved hW.alike hK, hD⟩, hS.F ht⟩) hS.2.2 dX7_saying_61
    · skip
      refine lv_iload_n hx hb dX7_saying_28 rfl (lv_at hl 3 rfl) ?_
      refine lv_iconst (v := 1) hx hb dX7_saying_29 (by decide) ?_
      refine lv_icmp_ne (tgt := 44) hx hb dX7_saying_30 (by decide) (fun c98 => ?_) (fun c98 => ?_)
      · skip
        refine lv_iload_n hx hb dX7_saying_44 rfl (lv_at hl 0 rfl) ?_
        refine lv_iload_n hx hb dX7_saying_45 rfl (lv_at hl 3 rfl) ?_
        refine lv_icmp_eq (tgt := 62) hx hb dX7_saying_46 (by decide) (fun c99 => ?_) (fun c99 => ?_)
        · skip
          refine lv_aload_n hx hb dX7_saying_62 rfl (lv_at hl 1 rfl) ?_
          refine zget (ci := 7) (C := RX7) (T := TX7) (N := 42) hx hb hts hi7 hown hK hP hM.1 rfl rfl 30 (by decide) (hts (.fieldLink RX7 95 "LinClusterModel" "saidBits" "[I") (by decide +kernel)) (fun _ h9 => h9) (v := .ref (ad 30)) (congrArg (fun z => some (va_rf z)) (((hM.eq hst.1).2.1 30 (by decide)).1)) dX7_saying_63 ?_
          refine lv_iload_n hx hb dX7_saying_66 rfl (lv_at hl 2 rfl) ?_
          refine lv_dup2_11 hx hb dX7_saying_67 rfl rfl ?_
          refine ziald hx hb hK hP (hM.2.1 30 (by decide)).2.1 (show G.2.2 (ad 30) = 8 from (hM.2.1 30 (by decide)).2.2) (vp_in_nI (n := n8) (N := 8) (by omega) (by omega)) dX7_saying_68 ?_
          refine lv_topi (fun v100 ev100 => ?_)
          rw [(nI_clamp (n := n8) (by omega))] at ev100
          obtain rfl : v100 = (nI q8) := ev100.trans eq8
          refine lv_iconst (v := 1) hx hb dX7_saying_69 (by decide) ?_
          refine lv_iadd hx hb dX7_saying_70 ?_
          refine lv_topi (fun v101 ev101 => ?_)
          obtain rfl : v101 = nI (q8 + 1) := ev101.trans (nI_add q8 1)
          refine ziast (x := (nI (q8 + 1))) hx hb hK hP hD hS (hM.2.1 30 (by decide)).2.1 (show G.2.2 (ad 30) = 8 from (hM.2.1 30 (by decide)).2.2) (vp_in_nI (n := n8) (N := 8) (by omega) (by omega)) dX7_saying_71 (fun H locs hP hD hS => ?_)
          rw [(nI_clamp (n := n8) (by omega))] at hP hD
          have hst := zC.pa hM hst (k := 30) (by decide) (by decide) n8 (nI (q8 + 1))
          have kn102 := zpi_o hM S (i := 2) (k := 30) (by decide) (by decide) (by decide) n8 (nI (q8 + 1)) eL8
          have kn103 := zpi_o hM S (i := 28) (k := 30) (by decide) (by decide) (by decide) n8 (nI (q8 + 1)) ei8
          have kn104 := zpi_o hM S (i := 16) (k := 30) (by decide) (by decide) (by decide) n8 (nI (q8 + 1)) hat
          have hI := hI.ix hn8
          have hI := hI.sb hM (nI (q8 + 1))
          have kn105 := zpi_s S (ad 30) n8 (nI (q8 + 1))
          refine lv_aload_n hx hb dX7_saying_72 rfl (lv_at hl 1 rfl) ?_
          refine zget (ci := 7) (C := RX7) (T := TX7) (N := 42) hx hb hts hi7 hown hK hP hM.1 rfl rfl 28 (by decide) (hts (.fieldLink RX7 89 "LinClusterModel" "idAt" "[I") (by decide +kernel)) (fun _ h9 => h9) (v := .ref (ad 28)) (congrArg (fun z => some (va_rf z)) (((hM.eq hst.1).2.1 28 (by decide)).1)) dX7_saying_73 ?_
          refine lv_iload_n hx hb dX7_saying_76 rfl (lv_at hl 2 rfl) ?_
          refine ziald hx hb hK hP (hM.2.1 28 (by decide)).2.1 (show G.2.2 (ad 28) = 8 from (hM.2.1 28 (by decide)).2.2) (vp_in_nI (n := n8) (N := 8) (by omega) (by omega)) dX7_saying_77 ?_
          refine lv_topi (fun v106 ev106 => ?_)
          rw [(nI_clamp (n := n8) (by omega))] at ev106
          obtain rfl : v106 = (nI i8) := ev106.trans kn103
          refine lv_istore (lv' := [(4, .int (nI i8)), (3, .int r3), (0, .ref mo), (1, .int (nI n8)), (2, .int v)]) hx hb dX7_saying_78 hl (by decide) rfl (fun ls hl => ?_)
          refine lv_aload_n hx hb dX7_saying_80 rfl (lv_at hl 2 rfl) ?_
          refine zget (ci := 7) (C := RX7) (T := TX7) (N := 42) hx hb hts hi7 hown hK hP hM.1 rfl rfl 30 (by decide) (hts (.fieldLink RX7 95 "LinClusterModel" "saidBits" "[I") (by decide +kernel)) (fun _ h9 => h9) (v := .ref (ad 30)) (congrArg (fun z => some (va_rf z)) (((hM.eq hst.1).2.1 30 (by decide)).1)) dX7_saying_81 ?_
          refine lv_iload_n hx hb dX7_saying_84 rfl (lv_at hl 3 rfl) ?_
          refine ziald hx hb hK hP (hM.2.1 30 (by decide)).2.1 (show G.2.2 (ad 30) = 8 from (hM.2.1 30 (by decide)).2.2) (vp_in_nI (n := n8) (N := 8) (by omega) (by omega)) dX7_saying_85 ?_
          refine lv_topi (fun v107 ev107 => ?_)
          rw [(nI_clamp (n := n8) (by omega))] at ev107
          obtain rfl : v107 = (nI (q8 + 1)) := ev107.trans kn105
          refine lv_bipush (v := 10) hx hb dX7_saying_86 (by decide) ?_
          refine lv_aload_n hx hb dX7_saying_88 rfl (lv_at hl 2 rfl) ?_
          refine zget (ci := 7) (C := RX7) (T := TX7) (N := 42) hx hb hts hi7 hown hK hP hM.1 rfl rfl 2 (by decide) (hts (.fieldLink RX7 13 "LinClusterModel" "lengths" "[I") (by decide +kernel)) (fun _ h9 => h9) (v := .ref (ad 2)) (congrArg (fun z => some (va_rf z)) (((hM.eq hst.1).2.1 2 (by decide)).1)) dX7_saying_89 ?_
          refine lv_iload hx hb dX7_saying_92 (lv_at hl 0 rfl) ?_
          refine ziald hx hb hK hP (hM.2.1 2 (by decide)).2.1 (show G.2.2 (ad 2) = 62 from (hM.2.1 2 (by decide)).2.2) (vp_in_nI (n := i8) (N := 62) (by omega) (by omega)) dX7_saying_94 ?_
          refine lv_topi (fun v108 ev108 => ?_)
          rw [(nI_clamp (n := i8) (by omega))] at ev108
          obtain rfl : v108 = (nI L8) := ev108.trans kn102
          refine lv_iconst (v := 1) hx hb dX7_saying_95 (by decide) ?_
          refine lv_iadd hx hb dX7_saying_96 ?_
          refine lv_topi (fun v109 ev109 => ?_)
          obtain rfl : v109 = nI (L8 + 1) := ev109.trans (nI_add L8 1)
          refine lv_imul hx hb dX7_saying_97 ?_
          refine lv_topi (fun v110 ev110 => ?_)
          obtain rfl : v110 = nI (10 * (L8 + 1)) := ev110.trans (pk_mul 10 (L8 + 1))
          refine lv_icmp_ne (tgt := 156) hx hb dX7_saying_98 (by decide) (fun c111 => ?_) (fun c111 => ?_)
          · skip
            have hI := hI.close (fun i L ei hi eL hL => by
              have e1 : i = i8 := (nI_eq (by omega) (by omega)).mp (ei.symm.trans kn103)
              subst e1
              have e2 : L = L8 := (nI_eq (by omega) (by omega)).mp (eL.symm.trans kn102)
              subst e2
              refine ⟨fun _ => ⟨(q8 + 1), kn105, ?_⟩, fun z9 => absurd (kn104.symm.trans z9) (by decide)⟩
              have hne : q8 + 1 ≠ 10 * (L + 1) := fun z9 => c111 (by rw [z9])
              omega)
            exact W.vret hx hb hr (fun t ht hW => ⟨⟨(zpi S (ad 30) n8 (nI (q8 + 1))), rfl, ⟨hst, hI⟩, by rw [ht]; exact hP, va_K.moved hW.alike hK, hD⟩, hS.F ht⟩) hS.2.2 dX7_saying_156
          · skip
            refine lv_aload_n hx hb dX7_saying_101 rfl (lv_at hl 2 rfl) ?_
            refine zget (ci := 7) (C := RX7) (T := TX7) (N := 42) hx hb hts hi7 hown hK hP hM.1 rfl rfl 19 (by decide) (hts (.fieldLink RX7 62 "LinClusterModel" "said" "[I") (by decide +kernel)) (fun _ h9 => h9) (v := .ref (ad 19)) (congrArg (fun z => some (va_rf z)) (((hM.eq hst.1).2.1 19 (by decide)).1)) dX7_saying_102 ?_
            refine lv_iload_n hx hb dX7_saying_105 rfl (lv_at hl 3 rfl) ?_
            refine lv_dup2_11 hx hb dX7_saying_106 rfl rfl ?_
            refine ziald hx hb hK hP (hM.2.1 19 (by decide)).2.1 (show G.2.2 (ad 19) = 8 from (hM.2.1 19 (by decide)).2.2) (vp_in_nI (n := n8) (N := 8) (by omega) (by omega)) dX7_saying_107 ?_
            refine lv_topi (fun v112 ev112 => ?_)
            rw [(nI_clamp (n := n8) (by omega))] at ev112
            refine lv_iconst (v := 1) hx hb dX7_saying_108 (by decide) ?_
            refine lv_iadd hx hb dX7_saying_109 ?_
            refine lv_topi (fun v113 ev113 => ?_)
            refine ziast (x := v113) hx hb hK hP hD hS (hM.2.1 19 (by decide)).2.1 (show G.2.2 (ad 19) = 8 from (hM.2.1 19 (by decide)).2.2) (vp_in_nI (n := n8) (N := 8) (by omega) (by omega)) dX7_saying_110 (fun H locs hP hD hS => ?_)
            rw [(nI_clamp (n := n8) (by omega))] at hP hD
            have hst := zC.pa hM hst (k := 19) (by decide) (by decide) n8 v113
            have kn114 := zpi_o hM (zpi S (ad 30) n8 (nI (q8 + 1))) (i := 2) (k := 19) (by decide) (by decide) (by decide) n8 v113 kn102
            have kn115 := zpi_o hM (zpi S (ad 30) n8 (nI (q8 + 1))) (i := 28) (k := 19) (by decide) (by decide) (by decide) n8 v113 kn103
            have kn116 := zpi_o hM (zpi S (ad 30) n8 (nI (q8 + 1))) (i := 16) (k := 19) (by decide) (by decide) (by decide) n8 v113 kn104
            have kn117 := zpi_o hM (zpi S (ad 30) n8 (nI (q8 + 1))) (i := 30) (k := 19) (by decide) (by decide) (by decide) n8 v113 kn105
            have hI := hI.free hM (k := 19) (by decide) (by decide) n8 v113
            have kn118 := zpi_s (zpi S (ad 30) n8 (nI (q8 + 1))) (ad 19) n8 v113
            refine lv_aload_n hx hb dX7_saying_111 rfl (lv_at hl 2 rfl) ?_
            refine zget (ci := 7) (C := RX7) (T := TX7) (N := 42) hx hb hts hi7 hown hK hP hM.1 rfl rfl 17 (by decide) (hts (.fieldLink RX7 56 "LinClusterModel" "errors" "[Z") (by decide +kernel)) (fun _ h9 => h9) (v := .ref (ad 17)) (congrArg (fun z => some (va_rf z)) (((hM.eq hst.1).2.1 17 (by decide)).1)) dX7_saying_112 ?_
            refine lv_iload_n hx hb dX7_saying_115 rfl (lv_at hl 3 rfl) ?_
            refine lv_aload_n hx hb dX7_saying_116 rfl (lv_at hl 2 rfl) ?_
            refine zget (ci := 7) (C := RX7) (T := TX7) (N := 42) hx hb hts hi7 hown hK hP hM.1 rfl rfl 17 (by decide) (hts (.fieldLink RX7 56 "LinClusterModel" "errors" "[Z") (by decide +kernel)) (fun _ h9 => h9) (v := .ref (ad 17)) (congrArg (fun z => some (va_rf z)) (((hM.eq hst.1).2.1 17 (by decide)).1)) dX7_saying_117 ?_
            refine lv_iload_n hx hb dX7_saying_120 rfl (lv_at hl 3 rfl) ?_
            refine zzald hx hb hK hP (hM.2.1 17 (by decide)).2.1 (show G.2.2 (ad 17) = 8 from (hM.2.1 17 (by decide)).2.2) (vp_in_nI (n := n8) (N := 8) (by omega) (by omega)) dX7_saying_121 ?_
            refine lv_topi (fun v119 ev119 => ?_)
            rw [(nI_clamp (n := n8) (by omega))] at ev119
            refine lv_if_eq (tgt := 140) hx hb dX7_saying_122 (by decide) (fun c120 => ?_) (fun c120 => ?_)
            · skip
              have kn121 := ev119.symm.trans c120
              refine lv_iconst (v := 0) hx hb dX7_saying_140 (by decide) ?_
              refine zzast (x := 0) hx hb hK hP hD hS (hM.2.1 17 (by decide)).2.1 (show G.2.2 (ad 17) = 8 from (hM.2.1 17 (by decide)).2.2) (vp_in_nI (n := n8) (N := 8) (by omega) (by omega)) dX7_saying_141 (fun H locs hP hD hS => ?_)
              rw [(nI_clamp (n := n8) (by omega))] at hP hD
              have hst := zC.pa hM hst (k := 17) (by decide) (by decide) n8 (vp_nar .boolean 0)
              have kn122 := zpi_o hM (zpi (zpi S (ad 30) n8 (nI (q8 + 1))) (ad 19) n8 v113) (i := 2) (k := 17) (by decide) (by decide) (by decide) n8 (vp_nar .boolean 0) kn114
              have kn123 := zpi_o hM (zpi (zpi S (ad 30) n8 (nI (q8 + 1))) (ad 19) n8 v113) (i := 28) (k := 17) (by decide) (by decide) (by decide) n8 (vp_nar .boolean 0) kn115
              have kn124 := zpi_o hM (zpi (zpi S (ad 30) n8 (nI (q8 + 1))) (ad 19) n8 v113) (i := 16) (k := 17) (by decide) (by decide) (by decide) n8 (vp_nar .boolean 0) kn116
              have kn125 := zpi_o hM (zpi (zpi S (ad 30) n8 (nI (q8 + 1))) (ad 19) n8 v113) (i := 30) (k := 17) (by decide) (by decide) (by decide) n8 (vp_nar .boolean 0) kn117
              have kn126 := zpi_o hM (zpi (zpi S (ad 30) n8 (nI (q8 + 1))) (ad 19) n8 v113) (i := 19) (k := 17) (by decide) (by decide) (by decide) n8 (vp_nar .boolean 0) kn118
              have hI := hI.free hM (k := 17) (by decide) (by decide) n8 (vp_nar .boolean 0)
              have kn127 := zpi_s (zpi (zpi S (ad 30) n8 (nI (q8 + 1))) (ad 19) n8 v113) (ad 17) n8 (vp_nar .boolean 0)
              refine lv_aload_n hx hb dX7_saying_142 rfl (lv_at hl 2 rfl) ?_
              refine zget (ci := 7) (C := RX7) (T := TX7) (N := 42) hx hb hts hi7 hown hK hP hM.1 rfl rfl 16 (by decide) (hts (.fieldLink RX7 53 "LinClusterModel" "at" "[I") (by decide +kernel)) (fun _ h9 => h9) (v := .ref (ad 16)) (congrArg (fun z => some (va_rf z)) (((hM.eq hst.1).2.1 16 (by decide)).1)) dX7_saying_143 ?_
              refine lv_iload_n hx hb dX7_saying_146 rfl (lv_at hl 3 rfl) ?_
              refine lv_iconst (v := 1) hx hb dX7_saying_147 (by decide) ?_
              refine ziast (x := 1) hx hb hK hP hD hS (hM.2.1 16 (by decide)).2.1 (show G.2.2 (ad 16) = 8 from (hM.2.1 16 (by decide)).2.2) (vp_in_nI (n := n8) (N := 8) (by omega) (by omega)) dX7_saying_148 (fun H locs hP hD hS => ?_)
              rw [(nI_clamp (n := n8) (by omega))] at hP hD
              have hst := zC.pa hM hst (k := 16) (by decide) (by decide) n8 1
              have kn128 := zpi_o hM (zpi (zpi (zpi S (ad 30) n8 (nI (q8 + 1))) (ad 19) n8 v113) (ad 17) n8 (vp_nar .boolean 0)) (i := 2) (k := 16) (by decide) (by decide) (by decide) n8 1 kn122
              have kn129 := zpi_o hM (zpi (zpi (zpi S (ad 30) n8 (nI (q8 + 1))) (ad 19) n8 v113) (ad 17) n8 (vp_nar .boolean 0)) (i := 28) (k := 16) (by decide) (by decide) (by decide) n8 1 kn123
              have kn130 := zpi_o hM (zpi (zpi (zpi S (ad 30) n8 (nI (q8 + 1))) (ad 19) n8 v113) (ad 17) n8 (vp_nar .boolean 0)) (i := 30) (k := 16) (by decide) (by decide) (by decide) n8 1 kn125
              have kn131 := zpi_o hM (zpi (zpi (zpi S (ad 30) n8 (nI (q8 + 1))) (ad 19) n8 v113) (ad 17) n8 (vp_nar .boolean 0)) (i := 19) (k := 16) (by decide) (by decide) (by decide) n8 1 kn126
              have kn132 := zpi_o hM (zpi (zpi (zpi S (ad 30) n8 (nI (q8 + 1))) (ad 19) n8 v113) (ad 17) n8 (vp_nar .boolean 0)) (i := 17) (k := 16) (by decide) (by decide) (by decide) n8 1 kn127
              have hI := hI.at hM (v := 1) (by decide) (by decide)
              have kn133 := zpi_s (zpi (zpi (zpi S (ad 30) n8 (nI (q8 + 1))) (ad 19) n8 v113) (ad 17) n8 (vp_nar .boolean 0)) (ad 16) n8 1
              refine lv_aload_n hx hb dX7_saying_149 rfl (lv_at hl 2 rfl) ?_
              refine lv_iload_n hx hb dX7_saying_150 rfl (lv_at hl 3 rfl) ?_
              refine lv_iload hx hb dX7_saying_151 (lv_at hl 0 rfl) ?_
              refine zcallv (va_runV (As := [.int (nI n8), .int (nI i8)]) (rest := []) ⟨hx, hb, hml, hown, hts⟩ (c_X7_rests l dC dI cy G (zpi (zpi (zpi (zpi S (ad 30) n8 (nI (q8 + 1))) (ad 19) n8 v113) (ad 17) n8 (vp_nar .boolean 0)) (ad 16) n8 1) H.size mo ad n8 (nI i8) (hM.eq hst.1) hI (by omega)) (cwV 2 hts gX7_saying_X7_rests rfl rfl rfl (by decide +kernel) ⟨Nat.le_of_ble_eq_true rfl, Nat.le_of_ble_eq_true rfl⟩) (zpreV hK hP hD hN (zrecv7 hK hP hM.1)) rfl rfl hl.1 rfl (lv_room (Nat.le_of_ble_eq_true rfl)) dX7_saying_153 ⟨Nat.le_of_ble_eq_true rfl, Nat.le_of_ble_eq_true rfl⟩) hS hD hA (fun S135 H locs hr134 hP hD hS => ?_)
              have hst := hst.trans (hr134.1.mono (by decide) (by decide))
              have hI := hr134.2
              have kn136 := (congrFun (hr134.1.2.1 2 (by decide) (by decide)) i8).trans kn128
              have kn137 := (congrFun (hr134.1.2.1 28 (by decide) (by decide)) n8).trans kn129
              have kn138 := (congrFun (hr134.1.2.1 30 (by decide) (by decide)) n8).trans kn130
              have kn139 := (congrFun (hr134.1.2.1 19 (by decide) (by decide)) n8).trans kn131
              have kn140 := (congrFun (hr134.1.2.1 17 (by decide) (by decide)) n8).trans kn132
              exact W.vret hx hb hr (fun t ht hW => ⟨⟨S135, rfl, ⟨hst, hI⟩, by rw [ht]; exact hP, va_K.moved hW.alike hK, hD⟩, hS.F ht⟩) hS.2.2 dX7_saying_156
            · skip
              refine lv_aload_n hx hb dX7_saying_125 rfl (lv_at hl 2 rfl) ?_
              refine zget (ci := 7) (C := RX7) (T := TX7) (N := 42) hx hb hts hi7 hown hK hP hM.1 rfl rfl 13 (by decide) (hts (.fieldLink RX7 44 "LinClusterModel" "statusIds" "[I") (by decide +kernel)) (fun _ h9 => h9) (v := .ref (ad 13)) (congrArg (fun z => some (va_rf z)) (((hM.eq hst.1).2.1 13 (by decide)).1)) dX7_saying_126 ?_
              refine lv_iload_n hx hb dX7_saying_129 rfl (lv_at hl 3 rfl) ?_
              refine ziald hx hb hK hP (hM.2.1 13 (by decide)).2.1 (show G.2.2 (ad 13) = 8 from (hM.2.1 13 (by decide)).2.2) (vp_in_nI (n := n8) (N := 8) (by omega) (by omega)) dX7_saying_130 ?_
              refine lv_topi (fun v141 ev141 => ?_)
              rw [(nI_clamp (n := n8) (by omega))] at ev141
              refine lv_iload hx hb dX7_saying_131 (lv_at hl 0 rfl) ?_
              refine lv_icmp_eq (tgt := 140) hx hb dX7_saying_133 (by decide) (fun c142 => ?_) (fun c142 => ?_)
              · skip
                refine lv_iconst (v := 0) hx hb dX7_saying_140 (by decide) ?_
                refine zzast (x := 0) hx hb hK hP hD hS (hM.2.1 17 (by decide)).2.1 (show G.2.2 (ad 17) = 8 from (hM.2.1 17 (by decide)).2.2) (vp_in_nI (n := n8) (N := 8) (by omega) (by omega)) dX7_saying_141 (fun H locs hP hD hS => ?_)
                rw [(nI_clamp (n := n8) (by omega))] at hP hD
                have hst := zC.pa hM hst (k := 17) (by decide) (by decide) n8 (vp_nar .boolean 0)
                have kn143 := zpi_o hM (zpi (zpi S (ad 30) n8 (nI (q8 + 1))) (ad 19) n8 v113) (i := 2) (k := 17) (by decide) (by decide) (by decide) n8 (vp_nar .boolean 0) kn114
                have kn144 := zpi_o hM (zpi (zpi S (ad 30) n8 (nI (q8 + 1))) (ad 19) n8 v113) (i := 28) (k := 17) (by decide) (by decide) (by decide) n8 (vp_nar .boolean 0) kn115
                have kn145 := zpi_o hM (zpi (zpi S (ad 30) n8 (nI (q8 + 1))) (ad 19) n8 v113) (i := 16) (k := 17) (by decide) (by decide) (by decide) n8 (vp_nar .boolean 0) kn116
                have kn146 := zpi_o hM (zpi (zpi S (ad 30) n8 (nI (q8 + 1))) (ad 19) n8 v113) (i := 30) (k := 17) (by decide) (by decide) (by decide) n8 (vp_nar .boolean 0) kn117
                have kn147 := zpi_o hM (zpi (zpi S (ad 30) n8 (nI (q8 + 1))) (ad 19) n8 v113) (i := 19) (k := 17) (by decide) (by decide) (by decide) n8 (vp_nar .boolean 0) kn118
                have hI := hI.free hM (k := 17) (by decide) (by decide) n8 (vp_nar .boolean 0)
                have kn148 := zpi_s (zpi (zpi S (ad 30) n8 (nI (q8 + 1))) (ad 19) n8 v113) (ad 17) n8 (vp_nar .boolean 0)
                refine lv_aload_n hx hb dX7_saying_142 rfl (lv_at hl 2 rfl) ?_
                refine zget (ci := 7) (C := RX7) (T := TX7) (N := 42) hx hb hts hi7 hown hK hP hM.1 rfl rfl 16 (by decide) (hts (.fieldLink RX7 53 "LinClusterModel" "at" "[I") (by decide +kernel)) (fun _ h9 => h9) (v := .ref (ad 16)) (congrArg (fun z => some (va_rf z)) (((hM.eq hst.1).2.1 16 (by decide)).1)) dX7_saying_143 ?_
                refine lv_iload_n hx hb dX7_saying_146 rfl (lv_at hl 3 rfl) ?_
                refine lv_iconst (v := 1) hx hb dX7_saying_147 (by decide) ?_
                refine ziast (x := 1) hx hb hK hP hD hS (hM.2.1 16 (by decide)).2.1 (show G.2.2 (ad 16) = 8 from (hM.2.1 16 (by decide)).2.2) (vp_in_nI (n := n8) (N := 8) (by omega) (by omega)) dX7_saying_148 (fun H locs hP hD hS => ?_)
                rw [(nI_clamp (n := n8) (by omega))] at hP hD
                have hst := zC.pa hM hst (k := 16) (by decide) (by decide) n8 1
                have kn149 := zpi_o hM (zpi (zpi (zpi S (ad 30) n8 (nI (q8 + 1))) (ad 19) n8 v113) (ad 17) n8 (vp_nar .boolean 0)) (i := 2) (k := 16) (by decide) (by decide) (by decide) n8 1 kn143
                have kn150 := zpi_o hM (zpi (zpi (zpi S (ad 30) n8 (nI (q8 + 1))) (ad 19) n8 v113) (ad 17) n8 (vp_nar .boolean 0)) (i := 28) (k := 16) (by decide) (by decide) (by decide) n8 1 kn144
                have kn151 := zpi_o hM (zpi (zpi (zpi S (ad 30) n8 (nI (q8 + 1))) (ad 19) n8 v113) (ad 17) n8 (vp_nar .boolean 0)) (i := 30) (k := 16) (by decide) (by decide) (by decide) n8 1 kn146
                have kn152 := zpi_o hM (zpi (zpi (zpi S (ad 30) n8 (nI (q8 + 1))) (ad 19) n8 v113) (ad 17) n8 (vp_nar .boolean 0)) (i := 19) (k := 16) (by decide) (by decide) (by decide) n8 1 kn147
                have kn153 := zpi_o hM (zpi (zpi (zpi S (ad 30) n8 (nI (q8 + 1))) (ad 19) n8 v113) (ad 17) n8 (vp_nar .boolean 0)) (i := 17) (k := 16) (by decide) (by decide) (by decide) n8 1 kn148
                have hI := hI.at hM (v := 1) (by decide) (by decide)
                have kn154 := zpi_s (zpi (zpi (zpi S (ad 30) n8 (nI (q8 + 1))) (ad 19) n8 v113) (ad 17) n8 (vp_nar .boolean 0)) (ad 16) n8 1
                refine lv_aload_n hx hb dX7_saying_149 rfl (lv_at hl 2 rfl) ?_
                refine lv_iload_n hx hb dX7_saying_150 rfl (lv_at hl 3 rfl) ?_
                refine lv_iload hx hb dX7_saying_151 (lv_at hl 0 rfl) ?_
                refine zcallv (va_runV (As := [.int (nI n8), .int (nI i8)]) (rest := []) ⟨hx, hb, hml, hown, hts⟩ (c_X7_rests l dC dI cy G (zpi (zpi (zpi (zpi S (ad 30) n8 (nI (q8 + 1))) (ad 19) n8 v113) (ad 17) n8 (vp_nar .boolean 0)) (ad 16) n8 1) H.size mo ad n8 (nI i8) (hM.eq hst.1) hI (by omega)) (cwV 2 hts gX7_saying_X7_rests rfl rfl rfl (by decide +kernel) ⟨Nat.le_of_ble_eq_true rfl, Nat.le_of_ble_eq_true rfl⟩) (zpreV hK hP hD hN (zrecv7 hK hP hM.1)) rfl rfl hl.1 rfl (lv_room (Nat.le_of_ble_eq_true rfl)) dX7_saying_153 ⟨Nat.le_of_ble_eq_true rfl, Nat.le_of_ble_eq_true rfl⟩) hS hD hA (fun S156 H locs hr155 hP hD hS => ?_)
                have hst := hst.trans (hr155.1.mono (by decide) (by decide))
                have hI := hr155.2
                have kn157 := (congrFun (hr155.1.2.1 2 (by decide) (by decide)) i8).trans kn149
                have kn158 := (congrFun (hr155.1.2.1 28 (by decide) (by decide)) n8).trans kn150
                have kn159 := (congrFun (hr155.1.2.1 30 (by decide) (by decide)) n8).trans kn151
                have kn160 := (congrFun (hr155.1.2.1 19 (by decide) (by decide)) n8).trans kn152
                have kn161 := (congrFun (hr155.1.2.1 17 (by decide) (by decide)) n8).trans kn153
                exact W.vret hx hb hr (fun t ht hW => ⟨⟨S156, rfl, ⟨hst, hI⟩, by rw [ht]; exact hP, va_K.moved hW.alike hK, hD⟩, hS.F ht⟩) hS.2.2 dX7_saying_156
              · skip
                refine lv_iconst (v := 1) hx hb dX7_saying_136 (by decide) ?_
                refine lv_goto (tgt := 141) hx hb dX7_saying_137 (by decide) ?_
                refine zzast (x := 1) hx hb hK hP hD hS (hM.2.1 17 (by decide)).2.1 (show G.2.2 (ad 17) = 8 from (hM.2.1 17 (by decide)).2.2) (vp_in_nI (n := n8) (N := 8) (by omega) (by omega)) dX7_saying_141 (fun H locs hP hD hS => ?_)
                rw [(nI_clamp (n := n8) (by omega))] at hP hD
                have hst := zC.pa hM hst (k := 17) (by decide) (by decide) n8 (vp_nar .boolean 1)
                have kn162 := zpi_o hM (zpi (zpi S (ad 30) n8 (nI (q8 + 1))) (ad 19) n8 v113) (i := 2) (k := 17) (by decide) (by decide) (by decide) n8 (vp_nar .boolean 1) kn114
                have kn163 := zpi_o hM (zpi (zpi S (ad 30) n8 (nI (q8 + 1))) (ad 19) n8 v113) (i := 28) (k := 17) (by decide) (by decide) (by decide) n8 (vp_nar .boolean 1) kn115
                have kn164 := zpi_o hM (zpi (zpi S (ad 30) n8 (nI (q8 + 1))) (ad 19) n8 v113) (i := 16) (k := 17) (by decide) (by decide) (by decide) n8 (vp_nar .boolean 1) kn116
                have kn165 := zpi_o hM (zpi (zpi S (ad 30) n8 (nI (q8 + 1))) (ad 19) n8 v113) (i := 30) (k := 17) (by decide) (by decide) (by decide) n8 (vp_nar .boolean 1) kn117
                have kn166 := zpi_o hM (zpi (zpi S (ad 30) n8 (nI (q8 + 1))) (ad 19) n8 v113) (i := 19) (k := 17) (by decide) (by decide) (by decide) n8 (vp_nar .boolean 1) kn118
                have hI := hI.free hM (k := 17) (by decide) (by decide) n8 (vp_nar .boolean 1)
                have kn167 := zpi_s (zpi (zpi S (ad 30) n8 (nI (q8 + 1))) (ad 19) n8 v113) (ad 17) n8 (vp_nar .boolean 1)
                refine lv_aload_n hx hb dX7_saying_142 rfl (lv_at hl 2 rfl) ?_
                refine zget (ci := 7) (C := RX7) (T := TX7) (N := 42) hx hb hts hi7 hown hK hP hM.1 rfl rfl 16 (by decide) (hts (.fieldLink RX7 53 "LinClusterModel" "at" "[I") (by decide +kernel)) (fun _ h9 => h9) (v := .ref (ad 16)) (congrArg (fun z => some (va_rf z)) (((hM.eq hst.1).2.1 16 (by decide)).1)) dX7_saying_143 ?_
                refine lv_iload_n hx hb dX7_saying_146 rfl (lv_at hl 3 rfl) ?_
                refine lv_iconst (v := 1) hx hb dX7_saying_147 (by decide) ?_
                refine ziast (x := 1) hx hb hK hP hD hS (hM.2.1 16 (by decide)).2.1 (show G.2.2 (ad 16) = 8 from (hM.2.1 16 (by decide)).2.2) (vp_in_nI (n := n8) (N := 8) (by omega) (by omega)) dX7_saying_148 (fun H locs hP hD hS => ?_)
                rw [(nI_clamp (n := n8) (by omega))] at hP hD
                have hst := zC.pa hM hst (k := 16) (by decide) (by decide) n8 1
                have kn168 := zpi_o hM (zpi (zpi (zpi S (ad 30) n8 (nI (q8 + 1))) (ad 19) n8 v113) (ad 17) n8 (vp_nar .boolean 1)) (i := 2) (k := 16) (by decide) (by decide) (by decide) n8 1 kn162
                have kn169 := zpi_o hM (zpi (zpi (zpi S (ad 30) n8 (nI (q8 + 1))) (ad 19) n8 v113) (ad 17) n8 (vp_nar .boolean 1)) (i := 28) (k := 16) (by decide) (by decide) (by decide) n8 1 kn163
                have kn170 := zpi_o hM (zpi (zpi (zpi S (ad 30) n8 (nI (q8 + 1))) (ad 19) n8 v113) (ad 17) n8 (vp_nar .boolean 1)) (i := 30) (k := 16) (by decide) (by decide) (by decide) n8 1 kn165
                have kn171 := zpi_o hM (zpi (zpi (zpi S (ad 30) n8 (nI (q8 + 1))) (ad 19) n8 v113) (ad 17) n8 (vp_nar .boolean 1)) (i := 19) (k := 16) (by decide) (by decide) (by decide) n8 1 kn166
                have kn172 := zpi_o hM (zpi (zpi (zpi S (ad 30) n8 (nI (q8 + 1))) (ad 19) n8 v113) (ad 17) n8 (vp_nar .boolean 1)) (i := 17) (k := 16) (by decide) (by decide) (by decide) n8 1 kn167
                have hI := hI.at hM (v := 1) (by decide) (by decide)
                have kn173 := zpi_s (zpi (zpi (zpi S (ad 30) n8 (nI (q8 + 1))) (ad 19) n8 v113) (ad 17) n8 (vp_nar .boolean 1)) (ad 16) n8 1
                refine lv_aload_n hx hb dX7_saying_149 rfl (lv_at hl 2 rfl) ?_
                refine lv_iload_n hx hb dX7_saying_150 rfl (lv_at hl 3 rfl) ?_
                refine lv_iload hx hb dX7_saying_151 (lv_at hl 0 rfl) ?_
                refine zcallv (va_runV (As := [.int (nI n8), .int (nI i8)]) (rest := []) ⟨hx, hb, hml, hown, hts⟩ (c_X7_rests l dC dI cy G (zpi (zpi (zpi (zpi S (ad 30) n8 (nI (q8 + 1))) (ad 19) n8 v113) (ad 17) n8 (vp_nar .boolean 1)) (ad 16) n8 1) H.size mo ad n8 (nI i8) (hM.eq hst.1) hI (by omega)) (cwV 2 hts gX7_saying_X7_rests rfl rfl rfl (by decide +kernel) ⟨Nat.le_of_ble_eq_true rfl, Nat.le_of_ble_eq_true rfl⟩) (zpreV hK hP hD hN (zrecv7 hK hP hM.1)) rfl rfl hl.1 rfl (lv_room (Nat.le_of_ble_eq_true rfl)) dX7_saying_153 ⟨Nat.le_of_ble_eq_true rfl, Nat.le_of_ble_eq_true rfl⟩) hS hD hA (fun S175 H locs hr174 hP hD hS => ?_)
                have hst := hst.trans (hr174.1.mono (by decide) (by decide))
                have hI := hr174.2
                have kn176 := (congrFun (hr174.1.2.1 2 (by decide) (by decide)) i8).trans kn168
                have kn177 := (congrFun (hr174.1.2.1 28 (by decide) (by decide)) n8).trans kn169
                have kn178 := (congrFun (hr174.1.2.1 30 (by decide) (by decide)) n8).trans kn170
                have kn179 := (congrFun (hr174.1.2.1 19 (by decide) (by decide)) n8).trans kn171
                have kn180 := (congrFun (hr174.1.2.1 17 (by decide) (by decide)) n8).trans kn172
                exact W.vret hx hb hr (fun t ht hW => ⟨⟨S175, rfl, ⟨hst, hI⟩, by rw [ht]; exact hP, va_K.moved hW.alike hK, hD⟩, hS.F ht⟩) hS.2.2 dX7_saying_156
        · skip
          refine lv_aload_n hx hb dX7_saying_49 rfl (lv_at hl 1 rfl) ?_
          refine lv_iload_n hx hb dX7_saying_50 rfl (lv_at hl 2 rfl) ?_
          refine zcallv (va_runV (As := [.int (nI n8)]) (rest := []) ⟨hx, hb, hml, hown, hts⟩ (c_X7_error l dC dI cy G S s.heap.size mo ad n8 (hM.eq hst.1) (by omega)) (cwV 1 hts gX7_saying_X7_error rfl rfl rfl (by decide +kernel) ⟨Nat.le_of_ble_eq_true rfl, Nat.le_of_ble_eq_true rfl⟩) (zpreV hK hP hD hN (zrecv7 hK hP hM.1)) rfl rfl hl.1 rfl (lv_room (Nat.le_of_ble_eq_true rfl)) dX7_saying_51 ⟨Nat.le_of_ble_eq_true rfl, Nat.le_of_ble_eq_true rfl⟩) hS hD hA (fun S182 H locs hr181 hP hD hS => ?_)
          have hst := hst.trans (hr181.mono (by decide) (by decide))
          have hI := hI.c hr181 (by decide) (by decide)
          have kn183 := (congrFun (hr181.2.1 2 (by decide) (by decide)) i8).trans eL8
          have kn184 := (congrFun (hr181.2.1 28 (by decide) (by decide)) n8).trans ei8
          have kn185 := (congrFun (hr181.2.1 16 (by decide) (by decide)) n8).trans hat
          have kn186 := (congrFun (hr181.2.1 30 (by decide) (by decide)) n8).trans eq8
          refine lv_aload_n hx hb dX7_saying_54 rfl (lv_at hl 1 rfl) ?_
          refine zget (ci := 7) (C := RX7) (T := TX7) (N := 42) hx hb hts hi7 hown hK hP hM.1 rfl rfl 16 (by decide) (hts (.fieldLink RX7 53 "LinClusterModel" "at" "[I") (by decide +kernel)) (fun _ h9 => h9) (v := .ref (ad 16)) (congrArg (fun z => some (va_rf z)) (((hM.eq hst.1).2.1 16 (by decide)).1)) dX7_saying_55 ?_
          refine lv_iload_n hx hb dX7_saying_58 rfl (lv_at hl 2 rfl) ?_
          refine lv_iconst (v := 1) hx hb dX7_saying_59 (by decide) ?_
          refine ziast (x := 1) hx hb hK hP hD hS (hM.2.1 16 (by decide)).2.1 (show G.2.2 (ad 16) = 8 from (hM.2.1 16 (by decide)).2.2) (vp_in_nI (n := n8) (N := 8) (by omega) (by omega)) dX7_saying_60 (fun H locs hP hD hS => ?_)
          rw [(nI_clamp (n := n8) (by omega))] at hP hD
          have hst := zC.pa hM hst (k := 16) (by decide) (by decide) n8 1
          have kn187 := zpi_o hM S182 (i := 2) (k := 16) (by decide) (by decide) (by decide) n8 1 kn183
          have kn188 := zpi_o hM S182 (i := 28) (k := 16) (by decide) (by decide) (by decide) n8 1 kn184
          have kn189 := zpi_o hM S182 (i := 30) (k := 16) (by decide) (by decide) (by decide) n8 1 kn186
          have hI := hI.at hM hn8 (v := 1) (by decide) (by decide)
          have kn190 := zpi_s S182 (ad 16) n8 1
          exact W.vret hx hb hr (fun t ht hW => ⟨⟨(zpi S182 (ad 16) n8 1), rfl, ⟨hst, hI⟩, by rw [ht]; exact hP, va_K.moved hW.alike hK, hD⟩, hS.F ht⟩) hS.2.2 dX7_saying_61
      · skip
        refine lv_aload_n hx hb dX7_saying_33 rfl (lv_at hl 1 rfl) ?_
        refine zget (ci := 7) (C := RX7) (T := TX7) (N := 42) hx hb hts hi7 hown hK hP hM.1 rfl rfl 31 (by decide) (hts (.fieldLink RX7 98 "LinClusterModel" "before" "[I") (by decide +kernel)) (fun _ h9 => h9) (v := .ref (ad 31)) (congrArg (fun z => some (va_rf z)) (((hM.eq hst.1).2.1 31 (by decide)).1)) dX7_saying_34 ?_
        refine lv_iload_n hx hb dX7_saying_37 rfl (lv_at hl 2 rfl) ?_
        refine lv_dup2_11 hx hb dX7_saying_38 rfl rfl ?_
        refine ziald hx hb hK hP (hM.2.1 31 (by decide)).2.1 (show G.2.2 (ad 31) = 8 from (hM.2.1 31 (by decide)).2.2) (vp_in_nI (n := n8) (N := 8) (by omega) (by omega)) dX7_saying_39 ?_
        refine lv_topi (fun v191 ev191 => ?_)
        rw [(nI_clamp (n := n8) (by omega))] at ev191
        refine lv_iconst (v := 1) hx hb dX7_saying_40 (by decide) ?_
        refine lv_isub hx hb dX7_saying_41 ?_
        refine lv_topi (fun v192 ev192 => ?_)
        refine ziast (x := v192) hx hb hK hP hD hS (hM.2.1 31 (by decide)).2.1 (show G.2.2 (ad 31) = 8 from (hM.2.1 31 (by decide)).2.2) (vp_in_nI (n := n8) (N := 8) (by omega) (by omega)) dX7_saying_42 (fun H locs hP hD hS => ?_)
        rw [(nI_clamp (n := n8) (by omega))] at hP hD
        have hst := zC.pa hM hst (k := 31) (by decide) (by decide) n8 v192
        have kn193 := zpi_o hM S (i := 2) (k := 31) (by decide) (by decide) (by decide) n8 v192 eL8
        have kn194 := zpi_o hM S (i := 28) (k := 31) (by decide) (by decide) (by decide) n8 v192 ei8
        have kn195 := zpi_o hM S (i := 16) (k := 31) (by decide) (by decide) (by decide) n8 v192 hat
        have kn196 := zpi_o hM S (i := 30) (k := 31) (by decide) (by decide) (by decide) n8 v192 eq8
        have hI := hI.free hM (k := 31) (by decide) (by decide) n8 v192
        have kn197 := zpi_s S (ad 31) n8 v192
        exact W.vret hx hb hr (fun t ht hW => ⟨⟨(zpi S (ad 31) n8 v192), rfl, ⟨hst, hI⟩, by rw [ht]; exact hP, va_K.moved hW.alike hK, hD⟩, hS.F ht⟩) hS.2.2 dX7_saying_43
  · skip
    refine lv_iconst (v := 1) hx hb dX7_saying_9 (by decide) ?_
    refine lv_goto (tgt := 18) hx hb dX7_saying_10 (by decide) ?_
    refine lv_istore_n (lv' := [(3, .int 1), (0, .ref mo), (1, .int (nI n8)), (2, .int v)]) hx hb dX7_saying_18 rfl hl (by decide) rfl (fun ls hl => ?_)
    refine lv_aload_n hx hb dX7_saying_19 rfl (lv_at hl 1 rfl) ?_
    refine zget (ci := 7) (C := RX7) (T := TX7) (N := 42) hx hb hts hi7 hown hK hP hM.1 rfl rfl 31 (by decide) (hts (.fieldLink RX7 98 "LinClusterModel" "before" "[I") (by decide +kernel)) (fun _ h9 => h9) (v := .ref (ad 31)) (congrArg (fun z => some (va_rf z)) (((hM.eq hst.1).2.1 31 (by decide)).1)) dX7_saying_20 ?_
    refine lv_iload_n hx hb dX7_saying_23 rfl (lv_at hl 2 rfl) ?_
    refine ziald hx hb hK hP (hM.2.1 31 (by decide)).2.1 (show G.2.2 (ad 31) = 8 from (hM.2.1 31 (by decide)).2.2) (vp_in_nI (n := n8) (N := 8) (by omega) (by omega)) dX7_saying_24 ?_
    refine lv_topi (fun v198 ev198 => ?_)
    rw [(nI_clamp (n := n8) (by omega))] at ev198
    refine lv_if_le (tgt := 44) hx hb dX7_saying_25 (by decide) (fun c199 => ?_) (fun c199 => ?_)
    · skip
      refine lv_iload_n hx hb dX7_saying_44 rfl (lv_at hl 0 rfl) ?_
      refine lv_iload_n hx hb dX7_saying_45 rfl (lv_at hl 3 rfl) ?_
      refine lv_icmp_eq (tgt := 62) hx hb dX7_saying_46 (by decide) (fun c200 => ?_) (fun c200 => ?_)
      · skip
        refine lv_aload_n hx hb dX7_saying_62 rfl (lv_at hl 1 rfl) ?_
        refine zget (ci := 7) (C := RX7) (T := TX7) (N := 42) hx hb hts hi7 hown hK hP hM.1 rfl rfl 30 (by decide) (hts (.fieldLink RX7 95 "LinClusterModel" "saidBits" "[I") (by decide +kernel)) (fun _ h9 => h9) (v := .ref (ad 30)) (congrArg (fun z => some (va_rf z)) (((hM.eq hst.1).2.1 30 (by decide)).1)) dX7_saying_63 ?_
        refine lv_iload_n hx hb dX7_saying_66 rfl (lv_at hl 2 rfl) ?_
        refine lv_dup2_11 hx hb dX7_saying_67 rfl rfl ?_
        refine ziald hx hb hK hP (hM.2.1 30 (by decide)).2.1 (show G.2.2 (ad 30) = 8 from (hM.2.1 30 (by decide)).2.2) (vp_in_nI (n := n8) (N := 8) (by omega) (by omega)) dX7_saying_68 ?_
        refine lv_topi (fun v201 ev201 => ?_)
        rw [(nI_clamp (n := n8) (by omega))] at ev201
        obtain rfl : v201 = (nI q8) := ev201.trans eq8
        refine lv_iconst (v := 1) hx hb dX7_saying_69 (by decide) ?_
        refine lv_iadd hx hb dX7_saying_70 ?_
        refine lv_topi (fun v202 ev202 => ?_)
        obtain rfl : v202 = nI (q8 + 1) := ev202.trans (nI_add q8 1)
        refine ziast (x := (nI (q8 + 1))) hx hb hK hP hD hS (hM.2.1 30 (by decide)).2.1 (show G.2.2 (ad 30) = 8 from (hM.2.1 30 (by decide)).2.2) (vp_in_nI (n := n8) (N := 8) (by omega) (by omega)) dX7_saying_71 (fun H locs hP hD hS => ?_)
        rw [(nI_clamp (n := n8) (by omega))] at hP hD
        have hst := zC.pa hM hst (k := 30) (by decide) (by decide) n8 (nI (q8 + 1))
        have kn203 := zpi_o hM S (i := 2) (k := 30) (by decide) (by decide) (by decide) n8 (nI (q8 + 1)) eL8
        have kn204 := zpi_o hM S (i := 28) (k := 30) (by decide) (by decide) (by decide) n8 (nI (q8 + 1)) ei8
        have kn205 := zpi_o hM S (i := 16) (k := 30) (by decide) (by decide) (by decide) n8 (nI (q8 + 1)) hat
        have hI := hI.ix hn8
        have hI := hI.sb hM (nI (q8 + 1))
        have kn206 := zpi_s S (ad 30) n8 (nI (q8 + 1))
        refine lv_aload_n hx hb dX7_saying_72 rfl (lv_at hl 1 rfl) ?_
        refine zget (ci := 7) (C := RX7) (T := TX7) (N := 42) hx hb hts hi7 hown hK hP hM.1 rfl rfl 28 (by decide) (hts (.fieldLink RX7 89 "LinClusterModel" "idAt" "[I") (by decide +kernel)) (fun _ h9 => h9) (v := .ref (ad 28)) (congrArg (fun z => some (va_rf z)) (((hM.eq hst.1).2.1 28 (by decide)).1)) dX7_saying_73 ?_
        refine lv_iload_n hx hb dX7_saying_76 rfl (lv_at hl 2 rfl) ?_
        refine ziald hx hb hK hP (hM.2.1 28 (by decide)).2.1 (show G.2.2 (ad 28) = 8 from (hM.2.1 28 (by decide)).2.2) (vp_in_nI (n := n8) (N := 8) (by omega) (by omega)) dX7_saying_77 ?_
        refine lv_topi (fun v207 ev207 => ?_)
        rw [(nI_clamp (n := n8) (by omega))] at ev207
        obtain rfl : v207 = (nI i8) := ev207.trans kn204
        refine lv_istore (lv' := [(4, .int (nI i8)), (3, .int 1), (0, .ref mo), (1, .int (nI n8)), (2, .int v)]) hx hb dX7_saying_78 hl (by decide) rfl (fun ls hl => ?_)
        refine lv_aload_n hx hb dX7_saying_80 rfl (lv_at hl 2 rfl) ?_
        refine zget (ci := 7) (C := RX7) (T := TX7) (N := 42) hx hb hts hi7 hown hK hP hM.1 rfl rfl 30 (by decide) (hts (.fieldLink RX7 95 "LinClusterModel" "saidBits" "[I") (by decide +kernel)) (fun _ h9 => h9) (v := .ref (ad 30)) (congrArg (fun z => some (va_rf z)) (((hM.eq hst.1).2.1 30 (by decide)).1)) dX7_saying_81 ?_
        refine lv_iload_n hx hb dX7_saying_84 rfl (lv_at hl 3 rfl) ?_
        refine ziald hx hb hK hP (hM.2.1 30 (by decide)).2.1 (show G.2.2 (ad 30) = 8 from (hM.2.1 30 (by decide)).2.2) (vp_in_nI (n := n8) (N := 8) (by omega) (by omega)) dX7_saying_85 ?_
        refine lv_topi (fun v208 ev208 => ?_)
        rw [(nI_clamp (n := n8) (by omega))] at ev208
        obtain rfl : v208 = (nI (q8 + 1)) := ev208.trans kn206
        refine lv_bipush (v := 10) hx hb dX7_saying_86 (by decide) ?_
        refine lv_aload_n hx hb dX7_saying_88 rfl (lv_at hl 2 rfl) ?_
        refine zget (ci := 7) (C := RX7) (T := TX7) (N := 42) hx hb hts hi7 hown hK hP hM.1 rfl rfl 2 (by decide) (hts (.fieldLink RX7 13 "LinClusterModel" "lengths" "[I") (by decide +kernel)) (fun _ h9 => h9) (v := .ref (ad 2)) (congrArg (fun z => some (va_rf z)) (((hM.eq hst.1).2.1 2 (by decide)).1)) dX7_saying_89 ?_
        refine lv_iload hx hb dX7_saying_92 (lv_at hl 0 rfl) ?_
        refine ziald hx hb hK hP (hM.2.1 2 (by decide)).2.1 (show G.2.2 (ad 2) = 62 from (hM.2.1 2 (by decide)).2.2) (vp_in_nI (n := i8) (N := 62) (by omega) (by omega)) dX7_saying_94 ?_
        refine lv_topi (fun v209 ev209 => ?_)
        rw [(nI_clamp (n := i8) (by omega))] at ev209
        obtain rfl : v209 = (nI L8) := ev209.trans kn203
        refine lv_iconst (v := 1) hx hb dX7_saying_95 (by decide) ?_
        refine lv_iadd hx hb dX7_saying_96 ?_
        refine lv_topi (fun v210 ev210 => ?_)
        obtain rfl : v210 = nI (L8 + 1) := ev210.trans (nI_add L8 1)
        refine lv_imul hx hb dX7_saying_97 ?_
        refine lv_topi (fun v211 ev211 => ?_)
        obtain rfl : v211 = nI (10 * (L8 + 1)) := ev211.trans (pk_mul 10 (L8 + 1))
        refine lv_icmp_ne (tgt := 156) hx hb dX7_saying_98 (by decide) (fun c212 => ?_) (fun c212 => ?_)
        · skip
          have hI := hI.close (fun i L ei hi eL hL => by
            have e1 : i = i8 := (nI_eq (by omega) (by omega)).mp (ei.symm.trans kn204)
            subst e1
            have e2 : L = L8 := (nI_eq (by omega) (by omega)).mp (eL.symm.trans kn203)
            subst e2
            refine ⟨fun _ => ⟨(q8 + 1), kn206, ?_⟩, fun z9 => absurd (kn205.symm.trans z9) (by decide)⟩
            have hne : q8 + 1 ≠ 10 * (L + 1) := fun z9 => c212 (by rw [z9])
            omega)
          exact W.vret hx hb hr (fun t ht hW => ⟨⟨(zpi S (ad 30) n8 (nI (q8 + 1))), rfl, ⟨hst, hI⟩, by rw [ht]; exact hP, va_K.moved hW.alike hK, hD⟩, hS.F ht⟩) hS.2.2 dX7_saying_156
        · skip
          refine lv_aload_n hx hb dX7_saying_101 rfl (lv_at hl 2 rfl) ?_
          refine zget (ci := 7) (C := RX7) (T := TX7) (N := 42) hx hb hts hi7 hown hK hP hM.1 rfl rfl 19 (by decide) (hts (.fieldLink RX7 62 "LinClusterModel" "said" "[I") (by decide +kernel)) (fun _ h9 => h9) (v := .ref (ad 19)) (congrArg (fun z => some (va_rf z)) (((hM.eq hst.1).2.1 19 (by decide)).1)) dX7_saying_102 ?_
          refine lv_iload_n hx hb dX7_saying_105 rfl (lv_at hl 3 rfl) ?_
          refine lv_dup2_11 hx hb dX7_saying_106 rfl rfl ?_
          refine ziald hx hb hK hP (hM.2.1 19 (by decide)).2.1 (show G.2.2 (ad 19) = 8 from (hM.2.1 19 (by decide)).2.2) (vp_in_nI (n := n8) (N := 8) (by omega) (by omega)) dX7_saying_107 ?_
          refine lv_topi (fun v213 ev213 => ?_)
          rw [(nI_clamp (n := n8) (by omega))] at ev213
          refine lv_iconst (v := 1) hx hb dX7_saying_108 (by decide) ?_
          refine lv_iadd hx hb dX7_saying_109 ?_
          refine lv_topi (fun v214 ev214 => ?_)
          refine ziast (x := v214) hx hb hK hP hD hS (hM.2.1 19 (by decide)).2.1 (show G.2.2 (ad 19) = 8 from (hM.2.1 19 (by decide)).2.2) (vp_in_nI (n := n8) (N := 8) (by omega) (by omega)) dX7_saying_110 (fun H locs hP hD hS => ?_)
          rw [(nI_clamp (n := n8) (by omega))] at hP hD
          have hst := zC.pa hM hst (k := 19) (by decide) (by decide) n8 v214
          have kn215 := zpi_o hM (zpi S (ad 30) n8 (nI (q8 + 1))) (i := 2) (k := 19) (by decide) (by decide) (by decide) n8 v214 kn203
          have kn216 := zpi_o hM (zpi S (ad 30) n8 (nI (q8 + 1))) (i := 28) (k := 19) (by decide) (by decide) (by decide) n8 v214 kn204
          have kn217 := zpi_o hM (zpi S (ad 30) n8 (nI (q8 + 1))) (i := 16) (k := 19) (by decide) (by decide) (by decide) n8 v214 kn205
          have kn218 := zpi_o hM (zpi S (ad 30) n8 (nI (q8 + 1))) (i := 30) (k := 19) (by decide) (by decide) (by decide) n8 v214 kn206
          have hI := hI.free hM (k := 19) (by decide) (by decide) n8 v214
          have kn219 := zpi_s (zpi S (ad 30) n8 (nI (q8 + 1))) (ad 19) n8 v214
          refine lv_aload_n hx hb dX7_saying_111 rfl (lv_at hl 2 rfl) ?_
          refine zget (ci := 7) (C := RX7) (T := TX7) (N := 42) hx hb hts hi7 hown hK hP hM.1 rfl rfl 17 (by decide) (hts (.fieldLink RX7 56 "LinClusterModel" "errors" "[Z") (by decide +kernel)) (fun _ h9 => h9) (v := .ref (ad 17)) (congrArg (fun z => some (va_rf z)) (((hM.eq hst.1).2.1 17 (by decide)).1)) dX7_saying_112 ?_
          refine lv_iload_n hx hb dX7_saying_115 rfl (lv_at hl 3 rfl) ?_
          refine lv_aload_n hx hb dX7_saying_116 rfl (lv_at hl 2 rfl) ?_
          refine zget (ci := 7) (C := RX7) (T := TX7) (N := 42) hx hb hts hi7 hown hK hP hM.1 rfl rfl 17 (by decide) (hts (.fieldLink RX7 56 "LinClusterModel" "errors" "[Z") (by decide +kernel)) (fun _ h9 => h9) (v := .ref (ad 17)) (congrArg (fun z => some (va_rf z)) (((hM.eq hst.1).2.1 17 (by decide)).1)) dX7_saying_117 ?_
          refine lv_iload_n hx hb dX7_saying_120 rfl (lv_at hl 3 rfl) ?_
          refine zzald hx hb hK hP (hM.2.1 17 (by decide)).2.1 (show G.2.2 (ad 17) = 8 from (hM.2.1 17 (by decide)).2.2) (vp_in_nI (n := n8) (N := 8) (by omega) (by omega)) dX7_saying_121 ?_
          refine lv_topi (fun v220 ev220 => ?_)
          rw [(nI_clamp (n := n8) (by omega))] at ev220
          refine lv_if_eq (tgt := 140) hx hb dX7_saying_122 (by decide) (fun c221 => ?_) (fun c221 => ?_)
          · skip
            have kn222 := ev220.symm.trans c221
            refine lv_iconst (v := 0) hx hb dX7_saying_140 (by decide) ?_
            refine zzast (x := 0) hx hb hK hP hD hS (hM.2.1 17 (by decide)).2.1 (show G.2.2 (ad 17) = 8 from (hM.2.1 17 (by decide)).2.2) (vp_in_nI (n := n8) (N := 8) (by omega) (by omega)) dX7_saying_141 (fun H locs hP hD hS => ?_)
            rw [(nI_clamp (n := n8) (by omega))] at hP hD
            have hst := zC.pa hM hst (k := 17) (by decide) (by decide) n8 (vp_nar .boolean 0)
            have kn223 := zpi_o hM (zpi (zpi S (ad 30) n8 (nI (q8 + 1))) (ad 19) n8 v214) (i := 2) (k := 17) (by decide) (by decide) (by decide) n8 (vp_nar .boolean 0) kn215
            have kn224 := zpi_o hM (zpi (zpi S (ad 30) n8 (nI (q8 + 1))) (ad 19) n8 v214) (i := 28) (k := 17) (by decide) (by decide) (by decide) n8 (vp_nar .boolean 0) kn216
            have kn225 := zpi_o hM (zpi (zpi S (ad 30) n8 (nI (q8 + 1))) (ad 19) n8 v214) (i := 16) (k := 17) (by decide) (by decide) (by decide) n8 (vp_nar .boolean 0) kn217
            have kn226 := zpi_o hM (zpi (zpi S (ad 30) n8 (nI (q8 + 1))) (ad 19) n8 v214) (i := 30) (k := 17) (by decide) (by decide) (by decide) n8 (vp_nar .boolean 0) kn218
            have kn227 := zpi_o hM (zpi (zpi S (ad 30) n8 (nI (q8 + 1))) (ad 19) n8 v214) (i := 19) (k := 17) (by decide) (by decide) (by decide) n8 (vp_nar .boolean 0) kn219
            have hI := hI.free hM (k := 17) (by decide) (by decide) n8 (vp_nar .boolean 0)
            have kn228 := zpi_s (zpi (zpi S (ad 30) n8 (nI (q8 + 1))) (ad 19) n8 v214) (ad 17) n8 (vp_nar .boolean 0)
            refine lv_aload_n hx hb dX7_saying_142 rfl (lv_at hl 2 rfl) ?_
            refine zget (ci := 7) (C := RX7) (T := TX7) (N := 42) hx hb hts hi7 hown hK hP hM.1 rfl rfl 16 (by decide) (hts (.fieldLink RX7 53 "LinClusterModel" "at" "[I") (by decide +kernel)) (fun _ h9 => h9) (v := .ref (ad 16)) (congrArg (fun z => some (va_rf z)) (((hM.eq hst.1).2.1 16 (by decide)).1)) dX7_saying_143 ?_
            refine lv_iload_n hx hb dX7_saying_146 rfl (lv_at hl 3 rfl) ?_
            refine lv_iconst (v := 1) hx hb dX7_saying_147 (by decide) ?_
            refine ziast (x := 1) hx hb hK hP hD hS (hM.2.1 16 (by decide)).2.1 (show G.2.2 (ad 16) = 8 from (hM.2.1 16 (by decide)).2.2) (vp_in_nI (n := n8) (N := 8) (by omega) (by omega)) dX7_saying_148 (fun H locs hP hD hS => ?_)
            rw [(nI_clamp (n := n8) (by omega))] at hP hD
            have hst := zC.pa hM hst (k := 16) (by decide) (by decide) n8 1
            have kn229 := zpi_o hM (zpi (zpi (zpi S (ad 30) n8 (nI (q8 + 1))) (ad 19) n8 v214) (ad 17) n8 (vp_nar .boolean 0)) (i := 2) (k := 16) (by decide) (by decide) (by decide) n8 1 kn223
            have kn230 := zpi_o hM (zpi (zpi (zpi S (ad 30) n8 (nI (q8 + 1))) (ad 19) n8 v214) (ad 17) n8 (vp_nar .boolean 0)) (i := 28) (k := 16) (by decide) (by decide) (by decide) n8 1 kn224
            have kn231 := zpi_o hM (zpi (zpi (zpi S (ad 30) n8 (nI (q8 + 1))) (ad 19) n8 v214) (ad 17) n8 (vp_nar .boolean 0)) (i := 30) (k := 16) (by decide) (by decide) (by decide) n8 1 kn226
            have kn232 := zpi_o hM (zpi (zpi (zpi S (ad 30) n8 (nI (q8 + 1))) (ad 19) n8 v214) (ad 17) n8 (vp_nar .boolean 0)) (i := 19) (k := 16) (by decide) (by decide) (by decide) n8 1 kn227
            have kn233 := zpi_o hM (zpi (zpi (zpi S (ad 30) n8 (nI (q8 + 1))) (ad 19) n8 v214) (ad 17) n8 (vp_nar .boolean 0)) (i := 17) (k := 16) (by decide) (by decide) (by decide) n8 1 kn228
            have hI := hI.at hM (v := 1) (by decide) (by decide)
            have kn234 := zpi_s (zpi (zpi (zpi S (ad 30) n8 (nI (q8 + 1))) (ad 19) n8 v214) (ad 17) n8 (vp_nar .boolean 0)) (ad 16) n8 1
            refine lv_aload_n hx hb dX7_saying_149 rfl (lv_at hl 2 rfl) ?_
            refine lv_iload_n hx hb dX7_saying_150 rfl (lv_at hl 3 rfl) ?_
            refine lv_iload hx hb dX7_saying_151 (lv_at hl 0 rfl) ?_
            refine zcallv (va_runV (As := [.int (nI n8), .int (nI i8)]) (rest := []) ⟨hx, hb, hml, hown, hts⟩ (c_X7_rests l dC dI cy G (zpi (zpi (zpi (zpi S (ad 30) n8 (nI (q8 + 1))) (ad 19) n8 v214) (ad 17) n8 (vp_nar .boolean 0)) (ad 16) n8 1) H.size mo ad n8 (nI i8) (hM.eq hst.1) hI (by omega)) (cwV 2 hts gX7_saying_X7_rests rfl rfl rfl (by decide +kernel) ⟨Nat.le_of_ble_eq_true rfl, Nat.le_of_ble_eq_true rfl⟩) (zpreV hK hP hD hN (zrecv7 hK hP hM.1)) rfl rfl hl.1 rfl (lv_room (Nat.le_of_ble_eq_true rfl)) dX7_saying_153 ⟨Nat.le_of_ble_eq_true rfl, Nat.le_of_ble_eq_true rfl⟩) hS hD hA (fun S236 H locs hr235 hP hD hS => ?_)
            have hst := hst.trans (hr235.1.mono (by decide) (by decide))
            have hI := hr235.2
            have kn237 := (congrFun (hr235.1.2.1 2 (by decide) (by decide)) i8).trans kn229
            have kn238 := (congrFun (hr235.1.2.1 28 (by decide) (by decide)) n8).trans kn230
            have kn239 := (congrFun (hr235.1.2.1 30 (by decide) (by decide)) n8).trans kn231
            have kn240 := (congrFun (hr235.1.2.1 19 (by decide) (by decide)) n8).trans kn232
            have kn241 := (congrFun (hr235.1.2.1 17 (by decide) (by decide)) n8).trans kn233
            exact W.vret hx hb hr (fun t ht hW => ⟨⟨S236, rfl, ⟨hst, hI⟩, by rw [ht]; exact hP, va_K.moved hW.alike hK, hD⟩, hS.F ht⟩) hS.2.2 dX7_saying_156
          · skip
            refine lv_aload_n hx hb dX7_saying_125 rfl (lv_at hl 2 rfl) ?_
            refine zget (ci := 7) (C := RX7) (T := TX7) (N := 42) hx hb hts hi7 hown hK hP hM.1 rfl rfl 13 (by decide) (hts (.fieldLink RX7 44 "LinClusterModel" "statusIds" "[I") (by decide +kernel)) (fun _ h9 => h9) (v := .ref (ad 13)) (congrArg (fun z => some (va_rf z)) (((hM.eq hst.1).2.1 13 (by decide)).1)) dX7_saying_126 ?_
            refine lv_iload_n hx hb dX7_saying_129 rfl (lv_at hl 3 rfl) ?_
            refine ziald hx hb hK hP (hM.2.1 13 (by decide)).2.1 (show G.2.2 (ad 13) = 8 from (hM.2.1 13 (by decide)).2.2) (vp_in_nI (n := n8) (N := 8) (by omega) (by omega)) dX7_saying_130 ?_
            refine lv_topi (fun v242 ev242 => ?_)
            rw [(nI_clamp (n := n8) (by omega))] at ev242
            refine lv_iload hx hb dX7_saying_131 (lv_at hl 0 rfl) ?_
            refine lv_icmp_eq (tgt := 140) hx hb dX7_saying_133 (by decide) (fun c243 => ?_) (fun c243 => ?_)
            · skip
              refine lv_iconst (v := 0) hx hb dX7_saying_140 (by decide) ?_
              refine zzast (x := 0) hx hb hK hP hD hS (hM.2.1 17 (by decide)).2.1 (show G.2.2 (ad 17) = 8 from (hM.2.1 17 (by decide)).2.2) (vp_in_nI (n := n8) (N := 8) (by omega) (by omega)) dX7_saying_141 (fun H locs hP hD hS => ?_)
              rw [(nI_clamp (n := n8) (by omega))] at hP hD
              have hst := zC.pa hM hst (k := 17) (by decide) (by decide) n8 (vp_nar .boolean 0)
              have kn244 := zpi_o hM (zpi (zpi S (ad 30) n8 (nI (q8 + 1))) (ad 19) n8 v214) (i := 2) (k := 17) (by decide) (by decide) (by decide) n8 (vp_nar .boolean 0) kn215
              have kn245 := zpi_o hM (zpi (zpi S (ad 30) n8 (nI (q8 + 1))) (ad 19) n8 v214) (i := 28) (k := 17) (by decide) (by decide) (by decide) n8 (vp_nar .boolean 0) kn216
              have kn246 := zpi_o hM (zpi (zpi S (ad 30) n8 (nI (q8 + 1))) (ad 19) n8 v214) (i := 16) (k := 17) (by decide) (by decide) (by decide) n8 (vp_nar .boolean 0) kn217
              have kn247 := zpi_o hM (zpi (zpi S (ad 30) n8 (nI (q8 + 1))) (ad 19) n8 v214) (i := 30) (k := 17) (by decide) (by decide) (by decide) n8 (vp_nar .boolean 0) kn218
              have kn248 := zpi_o hM (zpi (zpi S (ad 30) n8 (nI (q8 + 1))) (ad 19) n8 v214) (i := 19) (k := 17) (by decide) (by decide) (by decide) n8 (vp_nar .boolean 0) kn219
              have hI := hI.free hM (k := 17) (by decide) (by decide) n8 (vp_nar .boolean 0)
              have kn249 := zpi_s (zpi (zpi S (ad 30) n8 (nI (q8 + 1))) (ad 19) n8 v214) (ad 17) n8 (vp_nar .boolean 0)
              refine lv_aload_n hx hb dX7_saying_142 rfl (lv_at hl 2 rfl) ?_
              refine zget (ci := 7) (C := RX7) (T := TX7) (N := 42) hx hb hts hi7 hown hK hP hM.1 rfl rfl 16 (by decide) (hts (.fieldLink RX7 53 "LinClusterModel" "at" "[I") (by decide +kernel)) (fun _ h9 => h9) (v := .ref (ad 16)) (congrArg (fun z => some (va_rf z)) (((hM.eq hst.1).2.1 16 (by decide)).1)) dX7_saying_143 ?_
              refine lv_iload_n hx hb dX7_saying_146 rfl (lv_at hl 3 rfl) ?_
              refine lv_iconst (v := 1) hx hb dX7_saying_147 (by decide) ?_
              refine ziast (x := 1) hx hb hK hP hD hS (hM.2.1 16 (by decide)).2.1 (show G.2.2 (ad 16) = 8 from (hM.2.1 16 (by decide)).2.2) (vp_in_nI (n := n8) (N := 8) (by omega) (by omega)) dX7_saying_148 (fun H locs hP hD hS => ?_)
              rw [(nI_clamp (n := n8) (by omega))] at hP hD
              have hst := zC.pa hM hst (k := 16) (by decide) (by decide) n8 1
              have kn250 := zpi_o hM (zpi (zpi (zpi S (ad 30) n8 (nI (q8 + 1))) (ad 19) n8 v214) (ad 17) n8 (vp_nar .boolean 0)) (i := 2) (k := 16) (by decide) (by decide) (by decide) n8 1 kn244
              have kn251 := zpi_o hM (zpi (zpi (zpi S (ad 30) n8 (nI (q8 + 1))) (ad 19) n8 v214) (ad 17) n8 (vp_nar .boolean 0)) (i := 28) (k := 16) (by decide) (by decide) (by decide) n8 1 kn245
              have kn252 := zpi_o hM (zpi (zpi (zpi S (ad 30) n8 (nI (q8 + 1))) (ad 19) n8 v214) (ad 17) n8 (vp_nar .boolean 0)) (i := 30) (k := 16) (by decide) (by decide) (by decide) n8 1 kn247
              have kn253 := zpi_o hM (zpi (zpi (zpi S (ad 30) n8 (nI (q8 + 1))) (ad 19) n8 v214) (ad 17) n8 (vp_nar .boolean 0)) (i := 19) (k := 16) (by decide) (by decide) (by decide) n8 1 kn248
              have kn254 := zpi_o hM (zpi (zpi (zpi S (ad 30) n8 (nI (q8 + 1))) (ad 19) n8 v214) (ad 17) n8 (vp_nar .boolean 0)) (i := 17) (k := 16) (by decide) (by decide) (by decide) n8 1 kn249
              have hI := hI.at hM (v := 1) (by decide) (by decide)
              have kn255 := zpi_s (zpi (zpi (zpi S (ad 30) n8 (nI (q8 + 1))) (ad 19) n8 v214) (ad 17) n8 (vp_nar .boolean 0)) (ad 16) n8 1
              refine lv_aload_n hx hb dX7_saying_149 rfl (lv_at hl 2 rfl) ?_
              refine lv_iload_n hx hb dX7_saying_150 rfl (lv_at hl 3 rfl) ?_
              refine lv_iload hx hb dX7_saying_151 (lv_at hl 0 rfl) ?_
              refine zcallv (va_runV (As := [.int (nI n8), .int (nI i8)]) (rest := []) ⟨hx, hb, hml, hown, hts⟩ (c_X7_rests l dC dI cy G (zpi (zpi (zpi (zpi S (ad 30) n8 (nI (q8 + 1))) (ad 19) n8 v214) (ad 17) n8 (vp_nar .boolean 0)) (ad 16) n8 1) H.size mo ad n8 (nI i8) (hM.eq hst.1) hI (by omega)) (cwV 2 hts gX7_saying_X7_rests rfl rfl rfl (by decide +kernel) ⟨Nat.le_of_ble_eq_true rfl, Nat.le_of_ble_eq_true rfl⟩) (zpreV hK hP hD hN (zrecv7 hK hP hM.1)) rfl rfl hl.1 rfl (lv_room (Nat.le_of_ble_eq_true rfl)) dX7_saying_153 ⟨Nat.le_of_ble_eq_true rfl, Nat.le_of_ble_eq_true rfl⟩) hS hD hA (fun S257 H locs hr256 hP hD hS => ?_)
              have hst := hst.trans (hr256.1.mono (by decide) (by decide))
              have hI := hr256.2
              have kn258 := (congrFun (hr256.1.2.1 2 (by decide) (by decide)) i8).trans kn250
              have kn259 := (congrFun (hr256.1.2.1 28 (by decide) (by decide)) n8).trans kn251
              have kn260 := (congrFun (hr256.1.2.1 30 (by decide) (by decide)) n8).trans kn252
              have kn261 := (congrFun (hr256.1.2.1 19 (by decide) (by decide)) n8).trans kn253
              have kn262 := (congrFun (hr256.1.2.1 17 (by decide) (by decide)) n8).trans kn254
              exact W.vret hx hb hr (fun t ht hW => ⟨⟨S257, rfl, ⟨hst, hI⟩, by rw [ht]; exact hP, va_K.moved hW.alike hK, hD⟩, hS.F ht⟩) hS.2.2 dX7_saying_156
            · skip
              refine lv_iconst (v := 1) hx hb dX7_saying_136 (by decide) ?_
              refine lv_goto (tgt := 141) hx hb dX7_saying_137 (by decide) ?_
              refine zzast (x := 1) hx hb hK hP hD hS (hM.2.1 17 (by decide)).2.1 (show G.2.2 (ad 17) = 8 from (hM.2.1 17 (by decide)).2.2) (vp_in_nI (n := n8) (N := 8) (by omega) (by omega)) dX7_saying_141 (fun H locs hP hD hS => ?_)
              rw [(nI_clamp (n := n8) (by omega))] at hP hD
              have hst := zC.pa hM hst (k := 17) (by decide) (by decide) n8 (vp_nar .boolean 1)
              have kn263 := zpi_o hM (zpi (zpi S (ad 30) n8 (nI (q8 + 1))) (ad 19) n8 v214) (i := 2) (k := 17) (by decide) (by decide) (by decide) n8 (vp_nar .boolean 1) kn215
              have kn264 := zpi_o hM (zpi (zpi S (ad 30) n8 (nI (q8 + 1))) (ad 19) n8 v214) (i := 28) (k := 17) (by decide) (by decide) (by decide) n8 (vp_nar .boolean 1) kn216
              have kn265 := zpi_o hM (zpi (zpi S (ad 30) n8 (nI (q8 + 1))) (ad 19) n8 v214) (i := 16) (k := 17) (by decide) (by decide) (by decide) n8 (vp_nar .boolean 1) kn217
              have kn266 := zpi_o hM (zpi (zpi S (ad 30) n8 (nI (q8 + 1))) (ad 19) n8 v214) (i := 30) (k := 17) (by decide) (by decide) (by decide) n8 (vp_nar .boolean 1) kn218
              have kn267 := zpi_o hM (zpi (zpi S (ad 30) n8 (nI (q8 + 1))) (ad 19) n8 v214) (i := 19) (k := 17) (by decide) (by decide) (by decide) n8 (vp_nar .boolean 1) kn219
              have hI := hI.free hM (k := 17) (by decide) (by decide) n8 (vp_nar .boolean 1)
              have kn268 := zpi_s (zpi (zpi S (ad 30) n8 (nI (q8 + 1))) (ad 19) n8 v214) (ad 17) n8 (vp_nar .boolean 1)
              refine lv_aload_n hx hb dX7_saying_142 rfl (lv_at hl 2 rfl) ?_
              refine zget (ci := 7) (C := RX7) (T := TX7) (N := 42) hx hb hts hi7 hown hK hP hM.1 rfl rfl 16 (by decide) (hts (.fieldLink RX7 53 "LinClusterModel" "at" "[I") (by decide +kernel)) (fun _ h9 => h9) (v := .ref (ad 16)) (congrArg (fun z => some (va_rf z)) (((hM.eq hst.1).2.1 16 (by decide)).1)) dX7_saying_143 ?_
              refine lv_iload_n hx hb dX7_saying_146 rfl (lv_at hl 3 rfl) ?_
              refine lv_iconst (v := 1) hx hb dX7_saying_147 (by decide) ?_
              refine ziast (x := 1) hx hb hK hP hD hS (hM.2.1 16 (by decide)).2.1 (show G.2.2 (ad 16) = 8 from (hM.2.1 16 (by decide)).2.2) (vp_in_nI (n := n8) (N := 8) (by omega) (by omega)) dX7_saying_148 (fun H locs hP hD hS => ?_)
              rw [(nI_clamp (n := n8) (by omega))] at hP hD
              have hst := zC.pa hM hst (k := 16) (by decide) (by decide) n8 1
              have kn269 := zpi_o hM (zpi (zpi (zpi S (ad 30) n8 (nI (q8 + 1))) (ad 19) n8 v214) (ad 17) n8 (vp_nar .boolean 1)) (i := 2) (k := 16) (by decide) (by decide) (by decide) n8 1 kn263
              have kn270 := zpi_o hM (zpi (zpi (zpi S (ad 30) n8 (nI (q8 + 1))) (ad 19) n8 v214) (ad 17) n8 (vp_nar .boolean 1)) (i := 28) (k := 16) (by decide) (by decide) (by decide) n8 1 kn264
              have kn271 := zpi_o hM (zpi (zpi (zpi S (ad 30) n8 (nI (q8 + 1))) (ad 19) n8 v214) (ad 17) n8 (vp_nar .boolean 1)) (i := 30) (k := 16) (by decide) (by decide) (by decide) n8 1 kn266
              have kn272 := zpi_o hM (zpi (zpi (zpi S (ad 30) n8 (nI (q8 + 1))) (ad 19) n8 v214) (ad 17) n8 (vp_nar .boolean 1)) (i := 19) (k := 16) (by decide) (by decide) (by decide) n8 1 kn267
              have kn273 := zpi_o hM (zpi (zpi (zpi S (ad 30) n8 (nI (q8 + 1))) (ad 19) n8 v214) (ad 17) n8 (vp_nar .boolean 1)) (i := 17) (k := 16) (by decide) (by decide) (by decide) n8 1 kn268
              have hI := hI.at hM (v := 1) (by decide) (by decide)
              have kn274 := zpi_s (zpi (zpi (zpi S (ad 30) n8 (nI (q8 + 1))) (ad 19) n8 v214) (ad 17) n8 (vp_nar .boolean 1)) (ad 16) n8 1
              refine lv_aload_n hx hb dX7_saying_149 rfl (lv_at hl 2 rfl) ?_
              refine lv_iload_n hx hb dX7_saying_150 rfl (lv_at hl 3 rfl) ?_
              refine lv_iload hx hb dX7_saying_151 (lv_at hl 0 rfl) ?_
              refine zcallv (va_runV (As := [.int (nI n8), .int (nI i8)]) (rest := []) ⟨hx, hb, hml, hown, hts⟩ (c_X7_rests l dC dI cy G (zpi (zpi (zpi (zpi S (ad 30) n8 (nI (q8 + 1))) (ad 19) n8 v214) (ad 17) n8 (vp_nar .boolean 1)) (ad 16) n8 1) H.size mo ad n8 (nI i8) (hM.eq hst.1) hI (by omega)) (cwV 2 hts gX7_saying_X7_rests rfl rfl rfl (by decide +kernel) ⟨Nat.le_of_ble_eq_true rfl, Nat.le_of_ble_eq_true rfl⟩) (zpreV hK hP hD hN (zrecv7 hK hP hM.1)) rfl rfl hl.1 rfl (lv_room (Nat.le_of_ble_eq_true rfl)) dX7_saying_153 ⟨Nat.le_of_ble_eq_true rfl, Nat.le_of_ble_eq_true rfl⟩) hS hD hA (fun S276 H locs hr275 hP hD hS => ?_)
              have hst := hst.trans (hr275.1.mono (by decide) (by decide))
              have hI := hr275.2
              have kn277 := (congrFun (hr275.1.2.1 2 (by decide) (by decide)) i8).trans kn269
              have kn278 := (congrFun (hr275.1.2.1 28 (by decide) (by decide)) n8).trans kn270
              have kn279 := (congrFun (hr275.1.2.1 30 (by decide) (by decide)) n8).trans kn271
              have kn280 := (congrFun (hr275.1.2.1 19 (by decide) (by decide)) n8).trans kn272
              have kn281 := (congrFun (hr275.1.2.1 17 (by decide) (by decide)) n8).trans kn273
              exact W.vret hx hb hr (fun t ht hW => ⟨⟨S276, rfl, ⟨hst, hI⟩, by rw [ht]; exact hP, va_K.moved hW.alike hK, hD⟩, hS.F ht⟩) hS.2.2 dX7_saying_156
      · skip
        refine lv_aload_n hx hb dX7_saying_49 rfl (lv_at hl 1 rfl) ?_
        refine lv_iload_n hx hb dX7_saying_50 rfl (lv_at hl 2 rfl) ?_
        refine zcallv (va_runV (As := [.int (nI n8)]) (rest := []) ⟨hx, hb, hml, hown, hts⟩ (c_X7_error l dC dI cy G S s.heap.size mo ad n8 (hM.eq hst.1) (by omega)) (cwV 1 hts gX7_saying_X7_error rfl rfl rfl (by decide +kernel) ⟨Nat.le_of_ble_eq_true rfl, Nat.le_of_ble_eq_true rfl⟩) (zpreV hK hP hD hN (zrecv7 hK hP hM.1)) rfl rfl hl.1 rfl (lv_room (Nat.le_of_ble_eq_true rfl)) dX7_saying_51 ⟨Nat.le_of_ble_eq_true rfl, Nat.le_of_ble_eq_true rfl⟩) hS hD hA (fun S283 H locs hr282 hP hD hS => ?_)
        have hst := hst.trans (hr282.mono (by decide) (by decide))
        have hI := hI.c hr282 (by decide) (by decide)
        have kn284 := (congrFun (hr282.2.1 2 (by decide) (by decide)) i8).trans eL8
        have kn285 := (congrFun (hr282.2.1 28 (by decide) (by decide)) n8).trans ei8
        have kn286 := (congrFun (hr282.2.1 16 (by decide) (by decide)) n8).trans hat
        have kn287 := (congrFun (hr282.2.1 30 (by decide) (by decide)) n8).trans eq8
        refine lv_aload_n hx hb dX7_saying_54 rfl (lv_at hl 1 rfl) ?_
        refine zget (ci := 7) (C := RX7) (T := TX7) (N := 42) hx hb hts hi7 hown hK hP hM.1 rfl rfl 16 (by decide) (hts (.fieldLink RX7 53 "LinClusterModel" "at" "[I") (by decide +kernel)) (fun _ h9 => h9) (v := .ref (ad 16)) (congrArg (fun z => some (va_rf z)) (((hM.eq hst.1).2.1 16 (by decide)).1)) dX7_saying_55 ?_
        refine lv_iload_n hx hb dX7_saying_58 rfl (lv_at hl 2 rfl) ?_
        refine lv_iconst (v := 1) hx hb dX7_saying_59 (by decide) ?_
        refine ziast (x := 1) hx hb hK hP hD hS (hM.2.1 16 (by decide)).2.1 (show G.2.2 (ad 16) = 8 from (hM.2.1 16 (by decide)).2.2) (vp_in_nI (n := n8) (N := 8) (by omega) (by omega)) dX7_saying_60 (fun H locs hP hD hS => ?_)
        rw [(nI_clamp (n := n8) (by omega))] at hP hD
        have hst := zC.pa hM hst (k := 16) (by decide) (by decide) n8 1
        have kn288 := zpi_o hM S283 (i := 2) (k := 16) (by decide) (by decide) (by decide) n8 1 kn284
        have kn289 := zpi_o hM S283 (i := 28) (k := 16) (by decide) (by decide) (by decide) n8 1 kn285
        have kn290 := zpi_o hM S283 (i := 30) (k := 16) (by decide) (by decide) (by decide) n8 1 kn287
        have hI := hI.at hM hn8 (v := 1) (by decide) (by decide)
        have kn291 := zpi_s S283 (ad 16) n8 1
        exact W.vret hx hb hr (fun t ht hW => ⟨⟨(zpi S283 (ad 16) n8 1), rfl, ⟨hst, hI⟩, by rw [ht]; exact hP, va_K.moved hW.alike hK, hD⟩, hS.F ht⟩) hS.2.2 dX7_saying_61
    · skip
      refine lv_iload_n hx hb dX7_saying_28 rfl (lv_at hl 3 rfl) ?_
      refine lv_iconst (v := 1) hx hb dX7_saying_29 (by decide) ?_
      refine lv_icmp_ne (tgt := 44) hx hb dX7_saying_30 (by decide) (fun c292 => ?_) (fun c292 => ?_)
      · skip
        refine lv_iload_n hx hb dX7_saying_44 rfl (lv_at hl 0 rfl) ?_
        refine lv_iload_n hx hb dX7_saying_45 rfl (lv_at hl 3 rfl) ?_
        refine lv_icmp_eq (tgt := 62) hx hb dX7_saying_46 (by decide) (fun c293 => ?_) (fun c293 => ?_)
        · skip
          refine lv_aload_n hx hb dX7_saying_62 rfl (lv_at hl 1 rfl) ?_
          refine zget (ci := 7) (C := RX7) (T := TX7) (N := 42) hx hb hts hi7 hown hK hP hM.1 rfl rfl 30 (by decide) (hts (.fieldLink RX7 95 "LinClusterModel" "saidBits" "[I") (by decide +kernel)) (fun _ h9 => h9) (v := .ref (ad 30)) (congrArg (fun z => some (va_rf z)) (((hM.eq hst.1).2.1 30 (by decide)).1)) dX7_saying_63 ?_
          refine lv_iload_n hx hb dX7_saying_66 rfl (lv_at hl 2 rfl) ?_
          refine lv_dup2_11 hx hb dX7_saying_67 rfl rfl ?_
          refine ziald hx hb hK hP (hM.2.1 30 (by decide)).2.1 (show G.2.2 (ad 30) = 8 from (hM.2.1 30 (by decide)).2.2) (vp_in_nI (n := n8) (N := 8) (by omega) (by omega)) dX7_saying_68 ?_
          refine lv_topi (fun v294 ev294 => ?_)
          rw [(nI_clamp (n := n8) (by omega))] at ev294
          obtain rfl : v294 = (nI q8) := ev294.trans eq8
          refine lv_iconst (v := 1) hx hb dX7_saying_69 (by decide) ?_
          refine lv_iadd hx hb dX7_saying_70 ?_
          refine lv_topi (fun v295 ev295 => ?_)
          obtain rfl : v295 = nI (q8 + 1) := ev295.trans (nI_add q8 1)
          refine ziast (x := (nI (q8 + 1))) hx hb hK hP hD hS (hM.2.1 30 (by decide)).2.1 (show G.2.2 (ad 30) = 8 from (hM.2.1 30 (by decide)).2.2) (vp_in_nI (n := n8) (N := 8) (by omega) (by omega)) dX7_saying_71 (fun H locs hP hD hS => ?_)
          rw [(nI_clamp (n := n8) (by omega))] at hP hD
          have hst := zC.pa hM hst (k := 30) (by decide) (by decide) n8 (nI (q8 + 1))
          have kn296 := zpi_o hM S (i := 2) (k := 30) (by decide) (by decide) (by decide) n8 (nI (q8 + 1)) eL8
          have kn297 := zpi_o hM S (i := 28) (k := 30) (by decide) (by decide) (by decide) n8 (nI (q8 + 1)) ei8
          have kn298 := zpi_o hM S (i := 16) (k := 30) (by decide) (by decide) (by decide) n8 (nI (q8 + 1)) hat
          have hI := hI.ix hn8
          have hI := hI.sb hM (nI (q8 + 1))
          have kn299 := zpi_s S (ad 30) n8 (nI (q8 + 1))
          refine lv_aload_n hx hb dX7_saying_72 rfl (lv_at hl 1 rfl) ?_
          refine zget (ci := 7) (C := RX7) (T := TX7) (N := 42) hx hb hts hi7 hown hK hP hM.1 rfl rfl 28 (by decide) (hts (.fieldLink RX7 89 "LinClusterModel" "idAt" "[I") (by decide +kernel)) (fun _ h9 => h9) (v := .ref (ad 28)) (congrArg (fun z => some (va_rf z)) (((hM.eq hst.1).2.1 28 (by decide)).1)) dX7_saying_73 ?_
          refine lv_iload_n hx hb dX7_saying_76 rfl (lv_at hl 2 rfl) ?_
          refine ziald hx hb hK hP (hM.2.1 28 (by decide)).2.1 (show G.2.2 (ad 28) = 8 from (hM.2.1 28 (by decide)).2.2) (vp_in_nI (n := n8) (N := 8) (by omega) (by omega)) dX7_saying_77 ?_
          refine lv_topi (fun v300 ev300 => ?_)
          rw [(nI_clamp (n := n8) (by omega))] at ev300
          obtain rfl : v300 = (nI i8) := ev300.trans kn297
          refine lv_istore (lv' := [(4, .int (nI i8)), (3, .int 1), (0, .ref mo), (1, .int (nI n8)), (2, .int v)]) hx hb dX7_saying_78 hl (by decide) rfl (fun ls hl => ?_)
          refine lv_aload_n hx hb dX7_saying_80 rfl (lv_at hl 2 rfl) ?_
          refine zget (ci := 7) (C := RX7) (T := TX7) (N := 42) hx hb hts hi7 hown hK hP hM.1 rfl rfl 30 (by decide) (hts (.fieldLink RX7 95 "LinClusterModel" "saidBits" "[I") (by decide +kernel)) (fun _ h9 => h9) (v := .ref (ad 30)) (congrArg (fun z => some (va_rf z)) (((hM.eq hst.1).2.1 30 (by decide)).1)) dX7_saying_81 ?_
          refine lv_iload_n hx hb dX7_saying_84 rfl (lv_at hl 3 rfl) ?_
          refine ziald hx hb hK hP (hM.2.1 30 (by decide)).2.1 (show G.2.2 (ad 30) = 8 from (hM.2.1 30 (by decide)).2.2) (vp_in_nI (n := n8) (N := 8) (by omega) (by omega)) dX7_saying_85 ?_
          refine lv_topi (fun v301 ev301 => ?_)
          rw [(nI_clamp (n := n8) (by omega))] at ev301
          obtain rfl : v301 = (nI (q8 + 1)) := ev301.trans kn299
          refine lv_bipush (v := 10) hx hb dX7_saying_86 (by decide) ?_
          refine lv_aload_n hx hb dX7_saying_88 rfl (lv_at hl 2 rfl) ?_
          refine zget (ci := 7) (C := RX7) (T := TX7) (N := 42) hx hb hts hi7 hown hK hP hM.1 rfl rfl 2 (by decide) (hts (.fieldLink RX7 13 "LinClusterModel" "lengths" "[I") (by decide +kernel)) (fun _ h9 => h9) (v := .ref (ad 2)) (congrArg (fun z => some (va_rf z)) (((hM.eq hst.1).2.1 2 (by decide)).1)) dX7_saying_89 ?_
          refine lv_iload hx hb dX7_saying_92 (lv_at hl 0 rfl) ?_
          refine ziald hx hb hK hP (hM.2.1 2 (by decide)).2.1 (show G.2.2 (ad 2) = 62 from (hM.2.1 2 (by decide)).2.2) (vp_in_nI (n := i8) (N := 62) (by omega) (by omega)) dX7_saying_94 ?_
          refine lv_topi (fun v302 ev302 => ?_)
          rw [(nI_clamp (n := i8) (by omega))] at ev302
          obtain rfl : v302 = (nI L8) := ev302.trans kn296
          refine lv_iconst (v := 1) hx hb dX7_saying_95 (by decide) ?_
          refine lv_iadd hx hb dX7_saying_96 ?_
          refine lv_topi (fun v303 ev303 => ?_)
          obtain rfl : v303 = nI (L8 + 1) := ev303.trans (nI_add L8 1)
          refine lv_imul hx hb dX7_saying_97 ?_
          refine lv_topi (fun v304 ev304 => ?_)
          obtain rfl : v304 = nI (10 * (L8 + 1)) := ev304.trans (pk_mul 10 (L8 + 1))
          refine lv_icmp_ne (tgt := 156) hx hb dX7_saying_98 (by decide) (fun c305 => ?_) (fun c305 => ?_)
          · skip
            have hI := hI.close (fun i L ei hi eL hL => by
              have e1 : i = i8 := (nI_eq (by omega) (by omega)).mp (ei.symm.trans kn297)
              subst e1
              have e2 : L = L8 := (nI_eq (by omega) (by omega)).mp (eL.symm.trans kn296)
              subst e2
              refine ⟨fun _ => ⟨(q8 + 1), kn299, ?_⟩, fun z9 => absurd (kn298.symm.trans z9) (by decide)⟩
              have hne : q8 + 1 ≠ 10 * (L + 1) := fun z9 => c305 (by rw [z9])
              omega)
            exact W.vret hx hb hr (fun t ht hW => ⟨⟨(zpi S (ad 30) n8 (nI (q8 + 1))), rfl, ⟨hst, hI⟩, by rw [ht]; exact hP, va_K.moved hW.alike hK, hD⟩, hS.F ht⟩) hS.2.2 dX7_saying_156
          · skip
            refine lv_aload_n hx hb dX7_saying_101 rfl (lv_at hl 2 rfl) ?_
            refine zget (ci := 7) (C := RX7) (T := TX7) (N := 42) hx hb hts hi7 hown hK hP hM.1 rfl rfl 19 (by decide) (hts (.fieldLink RX7 62 "LinClusterModel" "said" "[I") (by decide +kernel)) (fun _ h9 => h9) (v := .ref (ad 19)) (congrArg (fun z => some (va_rf z)) (((hM.eq hst.1).2.1 19 (by decide)).1)) dX7_saying_102 ?_
            refine lv_iload_n hx hb dX7_saying_105 rfl (lv_at hl 3 rfl) ?_
            refine lv_dup2_11 hx hb dX7_saying_106 rfl rfl ?_
            refine ziald hx hb hK hP (hM.2.1 19 (by decide)).2.1 (show G.2.2 (ad 19) = 8 from (hM.2.1 19 (by decide)).2.2) (vp_in_nI (n := n8) (N := 8) (by omega) (by omega)) dX7_saying_107 ?_
            refine lv_topi (fun v306 ev306 => ?_)
            rw [(nI_clamp (n := n8) (by omega))] at ev306
            refine lv_iconst (v := 1) hx hb dX7_saying_108 (by decide) ?_
            refine lv_iadd hx hb dX7_saying_109 ?_
            refine lv_topi (fun v307 ev307 => ?_)
            refine ziast (x := v307) hx hb hK hP hD hS (hM.2.1 19 (by decide)).2.1 (show G.2.2 (ad 19) = 8 from (hM.2.1 19 (by decide)).2.2) (vp_in_nI (n := n8) (N := 8) (by omega) (by omega)) dX7_saying_110 (fun H locs hP hD hS => ?_)
            rw [(nI_clamp (n := n8) (by omega))] at hP hD
            have hst := zC.pa hM hst (k := 19) (by decide) (by decide) n8 v307
            have kn308 := zpi_o hM (zpi S (ad 30) n8 (nI (q8 + 1))) (i := 2) (k := 19) (by decide) (by decide) (by decide) n8 v307 kn296
            have kn309 := zpi_o hM (zpi S (ad 30) n8 (nI (q8 + 1))) (i := 28) (k := 19) (by decide) (by decide) (by decide) n8 v307 kn297
            have kn310 := zpi_o hM (zpi S (ad 30) n8 (nI (q8 + 1))) (i := 16) (k := 19) (by decide) (by decide) (by decide) n8 v307 kn298
            have kn311 := zpi_o hM (zpi S (ad 30) n8 (nI (q8 + 1))) (i := 30) (k := 19) (by decide) (by decide) (by decide) n8 v307 kn299
            have hI := hI.free hM (k := 19) (by decide) (by decide) n8 v307
            have kn312 := zpi_s (zpi S (ad 30) n8 (nI (q8 + 1))) (ad 19) n8 v307
            refine lv_aload_n hx hb dX7_saying_111 rfl (lv_at hl 2 rfl) ?_
            refine zget (ci := 7) (C := RX7) (T := TX7) (N := 42) hx hb hts hi7 hown hK hP hM.1 rfl rfl 17 (by decide) (hts (.fieldLink RX7 56 "LinClusterModel" "errors" "[Z") (by decide +kernel)) (fun _ h9 => h9) (v := .ref (ad 17)) (congrArg (fun z => some (va_rf z)) (((hM.eq hst.1).2.1 17 (by decide)).1)) dX7_saying_112 ?_
            refine lv_iload_n hx hb dX7_saying_115 rfl (lv_at hl 3 rfl) ?_
            refine lv_aload_n hx hb dX7_saying_116 rfl (lv_at hl 2 rfl) ?_
            refine zget (ci := 7) (C := RX7) (T := TX7) (N := 42) hx hb hts hi7 hown hK hP hM.1 rfl rfl 17 (by decide) (hts (.fieldLink RX7 56 "LinClusterModel" "errors" "[Z") (by decide +kernel)) (fun _ h9 => h9) (v := .ref (ad 17)) (congrArg (fun z => some (va_rf z)) (((hM.eq hst.1).2.1 17 (by decide)).1)) dX7_saying_117 ?_
            refine lv_iload_n hx hb dX7_saying_120 rfl (lv_at hl 3 rfl) ?_
            refine zzald hx hb hK hP (hM.2.1 17 (by decide)).2.1 (show G.2.2 (ad 17) = 8 from (hM.2.1 17 (by decide)).2.2) (vp_in_nI (n := n8) (N := 8) (by omega) (by omega)) dX7_saying_121 ?_
            refine lv_topi (fun v313 ev313 => ?_)
            rw [(nI_clamp (n := n8) (by omega))] at ev313
            refine lv_if_eq (tgt := 140) hx hb dX7_saying_122 (by decide) (fun c314 => ?_) (fun c314 => ?_)
            · skip
              have kn315 := ev313.symm.trans c314
              refine lv_iconst (v := 0) hx hb dX7_saying_140 (by decide) ?_
              refine zzast (x := 0) hx hb hK hP hD hS (hM.2.1 17 (by decide)).2.1 (show G.2.2 (ad 17) = 8 from (hM.2.1 17 (by decide)).2.2) (vp_in_nI (n := n8) (N := 8) (by omega) (by omega)) dX7_saying_141 (fun H locs hP hD hS => ?_)
              rw [(nI_clamp (n := n8) (by omega))] at hP hD
              have hst := zC.pa hM hst (k := 17) (by decide) (by decide) n8 (vp_nar .boolean 0)
              have kn316 := zpi_o hM (zpi (zpi S (ad 30) n8 (nI (q8 + 1))) (ad 19) n8 v307) (i := 2) (k := 17) (by decide) (by decide) (by decide) n8 (vp_nar .boolean 0) kn308
              have kn317 := zpi_o hM (zpi (zpi S (ad 30) n8 (nI (q8 + 1))) (ad 19) n8 v307) (i := 28) (k := 17) (by decide) (by decide) (by decide) n8 (vp_nar .boolean 0) kn309
              have kn318 := zpi_o hM (zpi (zpi S (ad 30) n8 (nI (q8 + 1))) (ad 19) n8 v307) (i := 16) (k := 17) (by decide) (by decide) (by decide) n8 (vp_nar .boolean 0) kn310
              have kn319 := zpi_o hM (zpi (zpi S (ad 30) n8 (nI (q8 + 1))) (ad 19) n8 v307) (i := 30) (k := 17) (by decide) (by decide) (by decide) n8 (vp_nar .boolean 0) kn311
              have kn320 := zpi_o hM (zpi (zpi S (ad 30) n8 (nI (q8 + 1))) (ad 19) n8 v307) (i := 19) (k := 17) (by decide) (by decide) (by decide) n8 (vp_nar .boolean 0) kn312
              have hI := hI.free hM (k := 17) (by decide) (by decide) n8 (vp_nar .boolean 0)
              have kn321 := zpi_s (zpi (zpi S (ad 30) n8 (nI (q8 + 1))) (ad 19) n8 v307) (ad 17) n8 (vp_nar .boolean 0)
              refine lv_aload_n hx hb dX7_saying_142 rfl (lv_at hl 2 rfl) ?_
              refine zget (ci := 7) (C := RX7) (T := TX7) (N := 42) hx hb hts hi7 hown hK hP hM.1 rfl rfl 16 (by decide) (hts (.fieldLink RX7 53 "LinClusterModel" "at" "[I") (by decide +kernel)) (fun _ h9 => h9) (v := .ref (ad 16)) (congrArg (fun z => some (va_rf z)) (((hM.eq hst.1).2.1 16 (by decide)).1)) dX7_saying_143 ?_
              refine lv_iload_n hx hb dX7_saying_146 rfl (lv_at hl 3 rfl) ?_
              refine lv_iconst (v := 1) hx hb dX7_saying_147 (by decide) ?_
              refine ziast (x := 1) hx hb hK hP hD hS (hM.2.1 16 (by decide)).2.1 (show G.2.2 (ad 16) = 8 from (hM.2.1 16 (by decide)).2.2) (vp_in_nI (n := n8) (N := 8) (by omega) (by omega)) dX7_saying_148 (fun H locs hP hD hS => ?_)
              rw [(nI_clamp (n := n8) (by omega))] at hP hD
              have hst := zC.pa hM hst (k := 16) (by decide) (by decide) n8 1
              have kn322 := zpi_o hM (zpi (zpi (zpi S (ad 30) n8 (nI (q8 + 1))) (ad 19) n8 v307) (ad 17) n8 (vp_nar .boolean 0)) (i := 2) (k := 16) (by decide) (by decide) (by decide) n8 1 kn316
              have kn323 := zpi_o hM (zpi (zpi (zpi S (ad 30) n8 (nI (q8 + 1))) (ad 19) n8 v307) (ad 17) n8 (vp_nar .boolean 0)) (i := 28) (k := 16) (by decide) (by decide) (by decide) n8 1 kn317
              have kn324 := zpi_o hM (zpi (zpi (zpi S (ad 30) n8 (nI (q8 + 1))) (ad 19) n8 v307) (ad 17) n8 (vp_nar .boolean 0)) (i := 30) (k := 16) (by decide) (by decide) (by decide) n8 1 kn319
              have kn325 := zpi_o hM (zpi (zpi (zpi S (ad 30) n8 (nI (q8 + 1))) (ad 19) n8 v307) (ad 17) n8 (vp_nar .boolean 0)) (i := 19) (k := 16) (by decide) (by decide) (by decide) n8 1 kn320
              have kn326 := zpi_o hM (zpi (zpi (zpi S (ad 30) n8 (nI (q8 + 1))) (ad 19) n8 v307) (ad 17) n8 (vp_nar .boolean 0)) (i := 17) (k := 16) (by decide) (by decide) (by decide) n8 1 kn321
              have hI := hI.at hM (v := 1) (by decide) (by decide)
              have kn327 := zpi_s (zpi (zpi (zpi S (ad 30) n8 (nI (q8 + 1))) (ad 19) n8 v307) (ad 17) n8 (vp_nar .boolean 0)) (ad 16) n8 1
              refine lv_aload_n hx hb dX7_saying_149 rfl (lv_at hl 2 rfl) ?_
              refine lv_iload_n hx hb dX7_saying_150 rfl (lv_at hl 3 rfl) ?_
              refine lv_iload hx hb dX7_saying_151 (lv_at hl 0 rfl) ?_
              refine zcallv (va_runV (As := [.int (nI n8), .int (nI i8)]) (rest := []) ⟨hx, hb, hml, hown, hts⟩ (c_X7_rests l dC dI cy G (zpi (zpi (zpi (zpi S (ad 30) n8 (nI (q8 + 1))) (ad 19) n8 v307) (ad 17) n8 (vp_nar .boolean 0)) (ad 16) n8 1) H.size mo ad n8 (nI i8) (hM.eq hst.1) hI (by omega)) (cwV 2 hts gX7_saying_X7_rests rfl rfl rfl (by decide +kernel) ⟨Nat.le_of_ble_eq_true rfl, Nat.le_of_ble_eq_true rfl⟩) (zpreV hK hP hD hN (zrecv7 hK hP hM.1)) rfl rfl hl.1 rfl (lv_room (Nat.le_of_ble_eq_true rfl)) dX7_saying_153 ⟨Nat.le_of_ble_eq_true rfl, Nat.le_of_ble_eq_true rfl⟩) hS hD hA (fun S329 H locs hr328 hP hD hS => ?_)
              have hst := hst.trans (hr328.1.mono (by decide) (by decide))
              have hI := hr328.2
              have kn330 := (congrFun (hr328.1.2.1 2 (by decide) (by decide)) i8).trans kn322
              have kn331 := (congrFun (hr328.1.2.1 28 (by decide) (by decide)) n8).trans kn323
              have kn332 := (congrFun (hr328.1.2.1 30 (by decide) (by decide)) n8).trans kn324
              have kn333 := (congrFun (hr328.1.2.1 19 (by decide) (by decide)) n8).trans kn325
              have kn334 := (congrFun (hr328.1.2.1 17 (by decide) (by decide)) n8).trans kn326
              exact W.vret hx hb hr (fun t ht hW => ⟨⟨S329, rfl, ⟨hst, hI⟩, by rw [ht]; exact hP, va_K.moved hW.alike hK, hD⟩, hS.F ht⟩) hS.2.2 dX7_saying_156
            · skip
              refine lv_aload_n hx hb dX7_saying_125 rfl (lv_at hl 2 rfl) ?_
              refine zget (ci := 7) (C := RX7) (T := TX7) (N := 42) hx hb hts hi7 hown hK hP hM.1 rfl rfl 13 (by decide) (hts (.fieldLink RX7 44 "LinClusterModel" "statusIds" "[I") (by decide +kernel)) (fun _ h9 => h9) (v := .ref (ad 13)) (congrArg (fun z => some (va_rf z)) (((hM.eq hst.1).2.1 13 (by decide)).1)) dX7_saying_126 ?_
              refine lv_iload_n hx hb dX7_saying_129 rfl (lv_at hl 3 rfl) ?_
              refine ziald hx hb hK hP (hM.2.1 13 (by decide)).2.1 (show G.2.2 (ad 13) = 8 from (hM.2.1 13 (by decide)).2.2) (vp_in_nI (n := n8) (N := 8) (by omega) (by omega)) dX7_saying_130 ?_
              refine lv_topi (fun v335 ev335 => ?_)
              rw [(nI_clamp (n := n8) (by omega))] at ev335
              refine lv_iload hx hb dX7_saying_131 (lv_at hl 0 rfl) ?_
              refine lv_icmp_eq (tgt := 140) hx hb dX7_saying_133 (by decide) (fun c336 => ?_) (fun c336 => ?_)
              · skip
                refine lv_iconst (v := 0) hx hb dX7_saying_140 (by decide) ?_
                refine zzast (x := 0) hx hb hK hP hD hS (hM.2.1 17 (by decide)).2.1 (show G.2.2 (ad 17) = 8 from (hM.2.1 17 (by decide)).2.2) (vp_in_nI (n := n8) (N := 8) (by omega) (by omega)) dX7_saying_141 (fun H locs hP hD hS => ?_)
                rw [(nI_clamp (n := n8) (by omega))] at hP hD
                have hst := zC.pa hM hst (k := 17) (by decide) (by decide) n8 (vp_nar .boolean 0)
                have kn337 := zpi_o hM (zpi (zpi S (ad 30) n8 (nI (q8 + 1))) (ad 19) n8 v307) (i := 2) (k := 17) (by decide) (by decide) (by decide) n8 (vp_nar .boolean 0) kn308
                have kn338 := zpi_o hM (zpi (zpi S (ad 30) n8 (nI (q8 + 1))) (ad 19) n8 v307) (i := 28) (k := 17) (by decide) (by decide) (by decide) n8 (vp_nar .boolean 0) kn309
                have kn339 := zpi_o hM (zpi (zpi S (ad 30) n8 (nI (q8 + 1))) (ad 19) n8 v307) (i := 16) (k := 17) (by decide) (by decide) (by decide) n8 (vp_nar .boolean 0) kn310
                have kn340 := zpi_o hM (zpi (zpi S (ad 30) n8 (nI (q8 + 1))) (ad 19) n8 v307) (i := 30) (k := 17) (by decide) (by decide) (by decide) n8 (vp_nar .boolean 0) kn311
                have kn341 := zpi_o hM (zpi (zpi S (ad 30) n8 (nI (q8 + 1))) (ad 19) n8 v307) (i := 19) (k := 17) (by decide) (by decide) (by decide) n8 (vp_nar .boolean 0) kn312
                have hI := hI.free hM (k := 17) (by decide) (by decide) n8 (vp_nar .boolean 0)
                have kn342 := zpi_s (zpi (zpi S (ad 30) n8 (nI (q8 + 1))) (ad 19) n8 v307) (ad 17) n8 (vp_nar .boolean 0)
                refine lv_aload_n hx hb dX7_saying_142 rfl (lv_at hl 2 rfl) ?_
                refine zget (ci := 7) (C := RX7) (T := TX7) (N := 42) hx hb hts hi7 hown hK hP hM.1 rfl rfl 16 (by decide) (hts (.fieldLink RX7 53 "LinClusterModel" "at" "[I") (by decide +kernel)) (fun _ h9 => h9) (v := .ref (ad 16)) (congrArg (fun z => some (va_rf z)) (((hM.eq hst.1).2.1 16 (by decide)).1)) dX7_saying_143 ?_
                refine lv_iload_n hx hb dX7_saying_146 rfl (lv_at hl 3 rfl) ?_
                refine lv_iconst (v := 1) hx hb dX7_saying_147 (by decide) ?_
                refine ziast (x := 1) hx hb hK hP hD hS (hM.2.1 16 (by decide)).2.1 (show G.2.2 (ad 16) = 8 from (hM.2.1 16 (by decide)).2.2) (vp_in_nI (n := n8) (N := 8) (by omega) (by omega)) dX7_saying_148 (fun H locs hP hD hS => ?_)
                rw [(nI_clamp (n := n8) (by omega))] at hP hD
                have hst := zC.pa hM hst (k := 16) (by decide) (by decide) n8 1
                have kn343 := zpi_o hM (zpi (zpi (zpi S (ad 30) n8 (nI (q8 + 1))) (ad 19) n8 v307) (ad 17) n8 (vp_nar .boolean 0)) (i := 2) (k := 16) (by decide) (by decide) (by decide) n8 1 kn337
                have kn344 := zpi_o hM (zpi (zpi (zpi S (ad 30) n8 (nI (q8 + 1))) (ad 19) n8 v307) (ad 17) n8 (vp_nar .boolean 0)) (i := 28) (k := 16) (by decide) (by decide) (by decide) n8 1 kn338
                have kn345 := zpi_o hM (zpi (zpi (zpi S (ad 30) n8 (nI (q8 + 1))) (ad 19) n8 v307) (ad 17) n8 (vp_nar .boolean 0)) (i := 30) (k := 16) (by decide) (by decide) (by decide) n8 1 kn340
                have kn346 := zpi_o hM (zpi (zpi (zpi S (ad 30) n8 (nI (q8 + 1))) (ad 19) n8 v307) (ad 17) n8 (vp_nar .boolean 0)) (i := 19) (k := 16) (by decide) (by decide) (by decide) n8 1 kn341
                have kn347 := zpi_o hM (zpi (zpi (zpi S (ad 30) n8 (nI (q8 + 1))) (ad 19) n8 v307) (ad 17) n8 (vp_nar .boolean 0)) (i := 17) (k := 16) (by decide) (by decide) (by decide) n8 1 kn342
                have hI := hI.at hM (v := 1) (by decide) (by decide)
                have kn348 := zpi_s (zpi (zpi (zpi S (ad 30) n8 (nI (q8 + 1))) (ad 19) n8 v307) (ad 17) n8 (vp_nar .boolean 0)) (ad 16) n8 1
                refine lv_aload_n hx hb dX7_saying_149 rfl (lv_at hl 2 rfl) ?_
                refine lv_iload_n hx hb dX7_saying_150 rfl (lv_at hl 3 rfl) ?_
                refine lv_iload hx hb dX7_saying_151 (lv_at hl 0 rfl) ?_
                refine zcallv (va_runV (As := [.int (nI n8), .int (nI i8)]) (rest := []) ⟨hx, hb, hml, hown, hts⟩ (c_X7_rests l dC dI cy G (zpi (zpi (zpi (zpi S (ad 30) n8 (nI (q8 + 1))) (ad 19) n8 v307) (ad 17) n8 (vp_nar .boolean 0)) (ad 16) n8 1) H.size mo ad n8 (nI i8) (hM.eq hst.1) hI (by omega)) (cwV 2 hts gX7_saying_X7_rests rfl rfl rfl (by decide +kernel) ⟨Nat.le_of_ble_eq_true rfl, Nat.le_of_ble_eq_true rfl⟩) (zpreV hK hP hD hN (zrecv7 hK hP hM.1)) rfl rfl hl.1 rfl (lv_room (Nat.le_of_ble_eq_true rfl)) dX7_saying_153 ⟨Nat.le_of_ble_eq_true rfl, Nat.le_of_ble_eq_true rfl⟩) hS hD hA (fun S350 H locs hr349 hP hD hS => ?_)
                have hst := hst.trans (hr349.1.mono (by decide) (by decide))
                have hI := hr349.2
                have kn351 := (congrFun (hr349.1.2.1 2 (by decide) (by decide)) i8).trans kn343
                have kn352 := (congrFun (hr349.1.2.1 28 (by decide) (by decide)) n8).trans kn344
                have kn353 := (congrFun (hr349.1.2.1 30 (by decide) (by decide)) n8).trans kn345
                have kn354 := (congrFun (hr349.1.2.1 19 (by decide) (by decide)) n8).trans kn346
                have kn355 := (congrFun (hr349.1.2.1 17 (by decide) (by decide)) n8).trans kn347
                exact W.vret hx hb hr (fun t ht hW => ⟨⟨S350, rfl, ⟨hst, hI⟩, by rw [ht]; exact hP, va_K.moved hW.alike hK, hD⟩, hS.F ht⟩) hS.2.2 dX7_saying_156
              · skip
                refine lv_iconst (v := 1) hx hb dX7_saying_136 (by decide) ?_
                refine lv_goto (tgt := 141) hx hb dX7_saying_137 (by decide) ?_
                refine zzast (x := 1) hx hb hK hP hD hS (hM.2.1 17 (by decide)).2.1 (show G.2.2 (ad 17) = 8 from (hM.2.1 17 (by decide)).2.2) (vp_in_nI (n := n8) (N := 8) (by omega) (by omega)) dX7_saying_141 (fun H locs hP hD hS => ?_)
                rw [(nI_clamp (n := n8) (by omega))] at hP hD
                have hst := zC.pa hM hst (k := 17) (by decide) (by decide) n8 (vp_nar .boolean 1)
                have kn356 := zpi_o hM (zpi (zpi S (ad 30) n8 (nI (q8 + 1))) (ad 19) n8 v307) (i := 2) (k := 17) (by decide) (by decide) (by decide) n8 (vp_nar .boolean 1) kn308
                have kn357 := zpi_o hM (zpi (zpi S (ad 30) n8 (nI (q8 + 1))) (ad 19) n8 v307) (i := 28) (k := 17) (by decide) (by decide) (by decide) n8 (vp_nar .boolean 1) kn309
                have kn358 := zpi_o hM (zpi (zpi S (ad 30) n8 (nI (q8 + 1))) (ad 19) n8 v307) (i := 16) (k := 17) (by decide) (by decide) (by decide) n8 (vp_nar .boolean 1) kn310
                have kn359 := zpi_o hM (zpi (zpi S (ad 30) n8 (nI (q8 + 1))) (ad 19) n8 v307) (i := 30) (k := 17) (by decide) (by decide) (by decide) n8 (vp_nar .boolean 1) kn311
                have kn360 := zpi_o hM (zpi (zpi S (ad 30) n8 (nI (q8 + 1))) (ad 19) n8 v307) (i := 19) (k := 17) (by decide) (by decide) (by decide) n8 (vp_nar .boolean 1) kn312
                have hI := hI.free hM (k := 17) (by decide) (by decide) n8 (vp_nar .boolean 1)
                have kn361 := zpi_s (zpi (zpi S (ad 30) n8 (nI (q8 + 1))) (ad 19) n8 v307) (ad 17) n8 (vp_nar .boolean 1)
                refine lv_aload_n hx hb dX7_saying_142 rfl (lv_at hl 2 rfl) ?_
                refine zget (ci := 7) (C := RX7) (T := TX7) (N := 42) hx hb hts hi7 hown hK hP hM.1 rfl rfl 16 (by decide) (hts (.fieldLink RX7 53 "LinClusterModel" "at" "[I") (by decide +kernel)) (fun _ h9 => h9) (v := .ref (ad 16)) (congrArg (fun z => some (va_rf z)) (((hM.eq hst.1).2.1 16 (by decide)).1)) dX7_saying_143 ?_
                refine lv_iload_n hx hb dX7_saying_146 rfl (lv_at hl 3 rfl) ?_
                refine lv_iconst (v := 1) hx hb dX7_saying_147 (by decide) ?_
                refine ziast (x := 1) hx hb hK hP hD hS (hM.2.1 16 (by decide)).2.1 (show G.2.2 (ad 16) = 8 from (hM.2.1 16 (by decide)).2.2) (vp_in_nI (n := n8) (N := 8) (by omega) (by omega)) dX7_saying_148 (fun H locs hP hD hS => ?_)
                rw [(nI_clamp (n := n8) (by omega))] at hP hD
                have hst := zC.pa hM hst (k := 16) (by decide) (by decide) n8 1
                have kn362 := zpi_o hM (zpi (zpi (zpi S (ad 30) n8 (nI (q8 + 1))) (ad 19) n8 v307) (ad 17) n8 (vp_nar .boolean 1)) (i := 2) (k := 16) (by decide) (by decide) (by decide) n8 1 kn356
                have kn363 := zpi_o hM (zpi (zpi (zpi S (ad 30) n8 (nI (q8 + 1))) (ad 19) n8 v307) (ad 17) n8 (vp_nar .boolean 1)) (i := 28) (k := 16) (by decide) (by decide) (by decide) n8 1 kn357
                have kn364 := zpi_o hM (zpi (zpi (zpi S (ad 30) n8 (nI (q8 + 1))) (ad 19) n8 v307) (ad 17) n8 (vp_nar .boolean 1)) (i := 30) (k := 16) (by decide) (by decide) (by decide) n8 1 kn359
                have kn365 := zpi_o hM (zpi (zpi (zpi S (ad 30) n8 (nI (q8 + 1))) (ad 19) n8 v307) (ad 17) n8 (vp_nar .boolean 1)) (i := 19) (k := 16) (by decide) (by decide) (by decide) n8 1 kn360
                have kn366 := zpi_o hM (zpi (zpi (zpi S (ad 30) n8 (nI (q8 + 1))) (ad 19) n8 v307) (ad 17) n8 (vp_nar .boolean 1)) (i := 17) (k := 16) (by decide) (by decide) (by decide) n8 1 kn361
                have hI := hI.at hM (v := 1) (by decide) (by decide)
                have kn367 := zpi_s (zpi (zpi (zpi S (ad 30) n8 (nI (q8 + 1))) (ad 19) n8 v307) (ad 17) n8 (vp_nar .boolean 1)) (ad 16) n8 1
                refine lv_aload_n hx hb dX7_saying_149 rfl (lv_at hl 2 rfl) ?_
                refine lv_iload_n hx hb dX7_saying_150 rfl (lv_at hl 3 rfl) ?_
                refine lv_iload hx hb dX7_saying_151 (lv_at hl 0 rfl) ?_
                refine zcallv (va_runV (As := [.int (nI n8), .int (nI i8)]) (rest := []) ⟨hx, hb, hml, hown, hts⟩ (c_X7_rests l dC dI cy G (zpi (zpi (zpi (zpi S (ad 30) n8 (nI (q8 + 1))) (ad 19) n8 v307) (ad 17) n8 (vp_nar .boolean 1)) (ad 16) n8 1) H.size mo ad n8 (nI i8) (hM.eq hst.1) hI (by omega)) (cwV 2 hts gX7_saying_X7_rests rfl rfl rfl (by decide +kernel) ⟨Nat.le_of_ble_eq_true rfl, Nat.le_of_ble_eq_true rfl⟩) (zpreV hK hP hD hN (zrecv7 hK hP hM.1)) rfl rfl hl.1 rfl (lv_room (Nat.le_of_ble_eq_true rfl)) dX7_saying_153 ⟨Nat.le_of_ble_eq_true rfl, Nat.le_of_ble_eq_true rfl⟩) hS hD hA (fun S369 H locs hr368 hP hD hS => ?_)
                have hst := hst.trans (hr368.1.mono (by decide) (by decide))
                have hI := hr368.2
                have kn370 := (congrFun (hr368.1.2.1 2 (by decide) (by decide)) i8).trans kn362
                have kn371 := (congrFun (hr368.1.2.1 28 (by decide) (by decide)) n8).trans kn363
                have kn372 := (congrFun (hr368.1.2.1 30 (by decide) (by decide)) n8).trans kn364
                have kn373 := (congrFun (hr368.1.2.1 19 (by decide) (by decide)) n8).trans kn365
                have kn374 := (congrFun (hr368.1.2.1 17 (by decide) (by decide)) n8).trans kn366
                exact W.vret hx hb hr (fun t ht hW => ⟨⟨S369, rfl, ⟨hst, hI⟩, by rw [ht]; exact hP, va_K.moved hW.alike hK, hD⟩, hS.F ht⟩) hS.2.2 dX7_saying_156
        · skip
          refine lv_aload_n hx hb dX7_saying_49 rfl (lv_at hl 1 rfl) ?_
          refine lv_iload_n hx hb dX7_saying_50 rfl (lv_at hl 2 rfl) ?_
          refine zcallv (va_runV (As := [.int (nI n8)]) (rest := []) ⟨hx, hb, hml, hown, hts⟩ (c_X7_error l dC dI cy G S s.heap.size mo ad n8 (hM.eq hst.1) (by omega)) (cwV 1 hts gX7_saying_X7_error rfl rfl rfl (by decide +kernel) ⟨Nat.le_of_ble_eq_true rfl, Nat.le_of_ble_eq_true rfl⟩) (zpreV hK hP hD hN (zrecv7 hK hP hM.1)) rfl rfl hl.1 rfl (lv_room (Nat.le_of_ble_eq_true rfl)) dX7_saying_51 ⟨Nat.le_of_ble_eq_true rfl, Nat.le_of_ble_eq_true rfl⟩) hS hD hA (fun S376 H locs hr375 hP hD hS => ?_)
          have hst := hst.trans (hr375.mono (by decide) (by decide))
          have hI := hI.c hr375 (by decide) (by decide)
          have kn377 := (congrFun (hr375.2.1 2 (by decide) (by decide)) i8).trans eL8
          have kn378 := (congrFun (hr375.2.1 28 (by decide) (by decide)) n8).trans ei8
          have kn379 := (congrFun (hr375.2.1 16 (by decide) (by decide)) n8).trans hat
          have kn380 := (congrFun (hr375.2.1 30 (by decide) (by decide)) n8).trans eq8
          refine lv_aload_n hx hb dX7_saying_54 rfl (lv_at hl 1 rfl) ?_
          refine zget (ci := 7) (C := RX7) (T := TX7) (N := 42) hx hb hts hi7 hown hK hP hM.1 rfl rfl 16 (by decide) (hts (.fieldLink RX7 53 "LinClusterModel" "at" "[I") (by decide +kernel)) (fun _ h9 => h9) (v := .ref (ad 16)) (congrArg (fun z => some (va_rf z)) (((hM.eq hst.1).2.1 16 (by decide)).1)) dX7_saying_55 ?_
          refine lv_iload_n hx hb dX7_saying_58 rfl (lv_at hl 2 rfl) ?_
          refine lv_iconst (v := 1) hx hb dX7_saying_59 (by decide) ?_
          refine ziast (x := 1) hx hb hK hP hD hS (hM.2.1 16 (by decide)).2.1 (show G.2.2 (ad 16) = 8 from (hM.2.1 16 (by decide)).2.2) (vp_in_nI (n := n8) (N := 8) (by omega) (by omega)) dX7_saying_60 (fun H locs hP hD hS => ?_)
          rw [(nI_clamp (n := n8) (by omega))] at hP hD
          have hst := zC.pa hM hst (k := 16) (by decide) (by decide) n8 1
          have kn381 := zpi_o hM S376 (i := 2) (k := 16) (by decide) (by decide) (by decide) n8 1 kn377
          have kn382 := zpi_o hM S376 (i := 28) (k := 16) (by decide) (by decide) (by decide) n8 1 kn378
          have kn383 := zpi_o hM S376 (i := 30) (k := 16) (by decide) (by decide) (by decide) n8 1 kn380
          have hI := hI.at hM hn8 (v := 1) (by decide) (by decide)
          have kn384 := zpi_s S376 (ad 16) n8 1
          exact W.vret hx hb hr (fun t ht hW => ⟨⟨(zpi S376 (ad 16) n8 1), rfl, ⟨hst, hI⟩, by rw [ht]; exact hP, va_K.moved hW.alike hK, hD⟩, hS.F ht⟩) hS.2.2 dX7_saying_61
      · skip
        refine lv_aload_n hx hb dX7_saying_33 rfl (lv_at hl 1 rfl) ?_
        refine zget (ci := 7) (C := RX7) (T := TX7) (N := 42) hx hb hts hi7 hown hK hP hM.1 rfl rfl 31 (by decide) (hts (.fieldLink RX7 98 "LinClusterModel" "before" "[I") (by decide +kernel)) (fun _ h9 => h9) (v := .ref (ad 31)) (congrArg (fun z => some (va_rf z)) (((hM.eq hst.1).2.1 31 (by decide)).1)) dX7_saying_34 ?_
        refine lv_iload_n hx hb dX7_saying_37 rfl (lv_at hl 2 rfl) ?_
        refine lv_dup2_11 hx hb dX7_saying_38 rfl rfl ?_
        refine ziald hx hb hK hP (hM.2.1 31 (by decide)).2.1 (show G.2.2 (ad 31) = 8 from (hM.2.1 31 (by decide)).2.2) (vp_in_nI (n := n8) (N := 8) (by omega) (by omega)) dX7_saying_39 ?_
        refine lv_topi (fun v385 ev385 => ?_)
        rw [(nI_clamp (n := n8) (by omega))] at ev385
        refine lv_iconst (v := 1) hx hb dX7_saying_40 (by decide) ?_
        refine lv_isub hx hb dX7_saying_41 ?_
        refine lv_topi (fun v386 ev386 => ?_)
        refine ziast (x := v386) hx hb hK hP hD hS (hM.2.1 31 (by decide)).2.1 (show G.2.2 (ad 31) = 8 from (hM.2.1 31 (by decide)).2.2) (vp_in_nI (n := n8) (N := 8) (by omega) (by omega)) dX7_saying_42 (fun H locs hP hD hS => ?_)
        rw [(nI_clamp (n := n8) (by omega))] at hP hD
        have hst := zC.pa hM hst (k := 31) (by decide) (by decide) n8 v386
        have kn387 := zpi_o hM S (i := 2) (k := 31) (by decide) (by decide) (by decide) n8 v386 eL8
        have kn388 := zpi_o hM S (i := 28) (k := 31) (by decide) (by decide) (by decide) n8 v386 ei8
        have kn389 := zpi_o hM S (i := 16) (k := 31) (by decide) (by decide) (by decide) n8 v386 hat
        have kn390 := zpi_o hM S (i := 30) (k := 31) (by decide) (by decide) (by decide) n8 v386 eq8
        have hI := hI.free hM (k := 31) (by decide) (by decide) n8 v386
        have kn391 := zpi_s S (ad 31) n8 v386
        exact W.vret hx hb hr (fun t ht hW => ⟨⟨(zpi S (ad 31) n8 v386), rfl, ⟨hst, hI⟩, by rw [ht]; exact hP, va_K.moved hW.alike hK, hD⟩, hS.F ht⟩) hS.2.2 dX7_saying_43
