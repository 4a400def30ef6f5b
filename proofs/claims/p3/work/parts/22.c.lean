set_option maxHeartbeats 4000000 in
set_option maxRecDepth 100000 in
theorem c_X7_respond (l : Launch) (dC : Nat → ClassId) (dI : Nat → Nat → Nat) (cy : Nat → ClassId) (G : zG) (S : zS) (sz : Nat) (mo : Nat) (ad : Nat → Nat) (n8 : Nat) (id : Int32) (hM : zM G S mo ad) (hI : zI mo ad S) (hn8 : n8 < 8) : Met l yX7_respond wsX7_respond ({ frames := 2, cells := 0, slots := 0, locals := 43 }) (zP dC dI cy [.ref mo, .int (nI n8), .int id] G S sz) (va_Qv (fun S' => (zC mo ad [7, 8, 16, 17, 18, 19, 20, 21, 22, 23, 24, 25, 26, 27, 28, 29, 30, 31, 32] [34] S S') ∧ zI mo ad S') (zB dC dI cy (zA cy G S sz) G) (zA cy G S sz)) 0 0 (zA cy G S sz) := by
  refine Met.ofW (cc := cX7_respond) (maxL := 5) (ret := none) (by decide) rfl ?_
  intro p e s m args below meth c s₁ B hml hv
  obtain ⟨rfl, hsz, hP, hK, hD0, hN⟩ := hv
  have hx := B.exec
  have hb := B.bytes
  have hr := B.returns
  have hts := atoms_spec (ws := wsX7_respond) B.pre
  have hown : s.vm.findClass RX7 = some m.cls := findClass_of_methodNamed B.named
  have hlocks := B.notSynchronized
  subst hsz
  have hD : va_D (zA cy G S s.heap.size) (zW cy G S) := hD0.self
  generalize hAe : zA cy G S s.heap.size = A at hD ⊢
  have hA : ∀ q : Nat, s.heap.size ≤ q → A q := fun q h => by rw [← hAe]; exact Or.inr h
  have hS : va_S A s.heap s.heap [] := va_S.rf
  have hst := zC.refl mo ad [7, 8, 16, 17, 18, 19, 20, 21, 22, 23, 24, 25, 26, 27, 28, 29, 30, 31, 32] [34] S
  have hl := lv_entry ([.ref mo, .int (nI n8), .int id]) (n := 5) (Nat.le_of_ble_eq_true rfl)
  rw [lg_entry_eq]
  generalize (lg_sl ([.ref mo, .int (nI n8), .int id]) ++ List.replicate (5 - (lg_sl ([.ref mo, .int (nI n8), .int id])).length) Slot.unset).toArray = ls at hl ⊢
  have hl : lv_has ls 5 [(0, .ref mo), (1, .int (nI n8)), (2, .int id)] := hl
  have hi7 : ∀ w ∈ wsX70, w ∈ wsX7_respond := by decide +kernel
  refine lv_aload_n hx hb dX7_respond_0 rfl (lv_at hl 0 rfl) ?_
  refine zget (ci := 7) (C := RX7) (T := TX7) (N := 42) hx hb hts hi7 hown hK hP hM.1 rfl rfl 16 (by decide) (hts (.fieldLink RX7 53 "LinClusterModel" "at" "[I") (by decide +kernel)) (fun _ h9 => h9) (v := .ref (ad 16)) (congrArg (fun z => some (va_rf z)) (((hM.eq hst.1).2.1 16 (by decide)).1)) dX7_respond_1 ?_
  refine lv_iload_n hx hb dX7_respond_4 rfl (lv_at hl 1 rfl) ?_
  refine lv_iconst (v := 1) hx hb dX7_respond_5 (by decide) ?_
  refine ziast (x := 1) hx hb hK hP hD hS (hM.2.1 16 (by decide)).2.1 (show G.2.2 (ad 16) = 8 from (hM.2.1 16 (by decide)).2.2) (vp_in_nI (n := n8) (N := 8) (by omega) (by omega)) dX7_respond_6 (fun H locs hP hD hS => ?_)
  rw [(nI_clamp (n := n8) (by omega))] at hP hD
  have hst := zC.pa hM hst (k := 16) (by decide) (by decide) n8 1
  have hI := hI.at hM hn8 (v := 1) (by decide) (by decide)
  have kn1 := zpi_s S (ad 16) n8 1
  refine lv_aload_n hx hb dX7_respond_7 rfl (lv_at hl 0 rfl) ?_
  refine lv_iload_n hx hb dX7_respond_8 rfl (lv_at hl 2 rfl) ?_
  refine vp_callSi (va_Run.run (va_runV (As := [.int id]) (rest := []) ⟨hx, hb, hml, hown, hts⟩ (c_X7_isFrame l dC dI cy G (zpi S (ad 16) n8 1) H.size mo ad id (hM.eq hst.1)) (cwV 1 hts gX7_respond_X7_isFrame rfl rfl rfl (by decide +kernel) ⟨Nat.le_of_ble_eq_true rfl, Nat.le_of_ble_eq_true rfl⟩) (zpreV hK hP hD hN (zrecv7 hK hP hM.1)) rfl rfl hl.1 rfl (lv_room (Nat.le_of_ble_eq_true rfl)) dX7_respond_9 ⟨Nat.le_of_ble_eq_true rfl, Nat.le_of_ble_eq_true rfl⟩)) (fun r2 hr2 => ?_)
  refine lv_if_ne (tgt := 16) hx hb dX7_respond_12 (by decide) (fun c3 => ?_) (fun c3 => ?_)
  · skip
    obtain ⟨i8, hi8, rfl⟩ := zfr hr2 c3
    refine lv_aload_n hx hb dX7_respond_16 rfl (lv_at hl 0 rfl) ?_
    refine zget (ci := 7) (C := RX7) (T := TX7) (N := 42) hx hb hts hi7 hown hK hP hM.1 rfl rfl 28 (by decide) (hts (.fieldLink RX7 89 "LinClusterModel" "idAt" "[I") (by decide +kernel)) (fun _ h9 => h9) (v := .ref (ad 28)) (congrArg (fun z => some (va_rf z)) (((hM.eq hst.1).2.1 28 (by decide)).1)) dX7_respond_17 ?_
    refine lv_iload_n hx hb dX7_respond_20 rfl (lv_at hl 1 rfl) ?_
    refine lv_iload_n hx hb dX7_respond_21 rfl (lv_at hl 2 rfl) ?_
    refine ziast (x := (nI i8)) hx hb hK hP hD hS (hM.2.1 28 (by decide)).2.1 (show G.2.2 (ad 28) = 8 from (hM.2.1 28 (by decide)).2.2) (vp_in_nI (n := n8) (N := 8) (by omega) (by omega)) dX7_respond_22 (fun H locs hP hD hS => ?_)
    rw [(nI_clamp (n := n8) (by omega))] at hP hD
    have hst := zC.pa hM hst (k := 28) (by decide) (by decide) n8 (nI i8)
    have kn4 := zpi_o hM (zpi S (ad 16) n8 1) (i := 16) (k := 28) (by decide) (by decide) (by decide) n8 (nI i8) kn1
    have hI := hI.ix hn8
    have hI := hI.id hM (i := i8) (by omega)
    have kn5 := zpi_s (zpi S (ad 16) n8 1) (ad 28) n8 (nI i8)
    have hI := hI.idle (by rw [kn4]; decide) (by rw [kn4]; decide)
    refine lv_aload_n hx hb dX7_respond_23 rfl (lv_at hl 0 rfl) ?_
    refine zget (ci := 7) (C := RX7) (T := TX7) (N := 42) hx hb hts hi7 hown hK hP hM.1 rfl rfl 27 (by decide) (hts (.fieldLink RX7 86 "LinClusterModel" "characters" "[I") (by decide +kernel)) (fun _ h9 => h9) (v := .ref (ad 27)) (congrArg (fun z => some (va_rf z)) (((hM.eq hst.1).2.1 27 (by decide)).1)) dX7_respond_24 ?_
    refine lv_iload_n hx hb dX7_respond_27 rfl (lv_at hl 1 rfl) ?_
    refine lv_iconst (v := 0) hx hb dX7_respond_28 (by decide) ?_
    refine ziast (x := 0) hx hb hK hP hD hS (hM.2.1 27 (by decide)).2.1 (show G.2.2 (ad 27) = 8 from (hM.2.1 27 (by decide)).2.2) (vp_in_nI (n := n8) (N := 8) (by omega) (by omega)) dX7_respond_29 (fun H locs hP hD hS => ?_)
    rw [(nI_clamp (n := n8) (by omega))] at hP hD
    have hst := zC.pa hM hst (k := 27) (by decide) (by decide) n8 0
    have kn6 := zpi_o hM (zpi (zpi S (ad 16) n8 1) (ad 28) n8 (nI i8)) (i := 16) (k := 27) (by decide) (by decide) (by decide) n8 0 kn4
    have kn7 := zpi_o hM (zpi (zpi S (ad 16) n8 1) (ad 28) n8 (nI i8)) (i := 28) (k := 27) (by decide) (by decide) (by decide) n8 0 kn5
    have hI := hI.ix hn8
    have hI := hI.ch hM 0
    have kn8 := zpi_s (zpi (zpi S (ad 16) n8 1) (ad 28) n8 (nI i8)) (ad 27) n8 0
    have hI := hI.idle (by rw [kn6]; decide) (by rw [kn6]; decide)
    refine lv_aload_n hx hb dX7_respond_30 rfl (lv_at hl 0 rfl) ?_
    refine zget (ci := 7) (C := RX7) (T := TX7) (N := 42) hx hb hts hi7 hown hK hP hM.1 rfl rfl 32 (by decide) (hts (.fieldLink RX7 101 "LinClusterModel" "ticks" "[I") (by decide +kernel)) (fun _ h9 => h9) (v := .ref (ad 32)) (congrArg (fun z => some (va_rf z)) (((hM.eq hst.1).2.1 32 (by decide)).1)) dX7_respond_31 ?_
    refine lv_iload_n hx hb dX7_respond_34 rfl (lv_at hl 1 rfl) ?_
    refine lv_iconst (v := 0) hx hb dX7_respond_35 (by decide) ?_
    refine ziast (x := 0) hx hb hK hP hD hS (hM.2.1 32 (by decide)).2.1 (show G.2.2 (ad 32) = 8 from (hM.2.1 32 (by decide)).2.2) (vp_in_nI (n := n8) (N := 8) (by omega) (by omega)) dX7_respond_36 (fun H locs hP hD hS => ?_)
    rw [(nI_clamp (n := n8) (by omega))] at hP hD
    have hst := zC.pa hM hst (k := 32) (by decide) (by decide) n8 0
    have kn9 := zpi_o hM (zpi (zpi (zpi S (ad 16) n8 1) (ad 28) n8 (nI i8)) (ad 27) n8 0) (i := 16) (k := 32) (by decide) (by decide) (by decide) n8 0 kn6
    have kn10 := zpi_o hM (zpi (zpi (zpi S (ad 16) n8 1) (ad 28) n8 (nI i8)) (ad 27) n8 0) (i := 28) (k := 32) (by decide) (by decide) (by decide) n8 0 kn7
    have kn11 := zpi_o hM (zpi (zpi (zpi S (ad 16) n8 1) (ad 28) n8 (nI i8)) (ad 27) n8 0) (i := 27) (k := 32) (by decide) (by decide) (by decide) n8 0 kn8
    have hI := hI.free hM (k := 32) (by decide) (by decide) n8 0
    have kn12 := zpi_s (zpi (zpi (zpi S (ad 16) n8 1) (ad 28) n8 (nI i8)) (ad 27) n8 0) (ad 32) n8 0
    refine lv_aload_n hx hb dX7_respond_37 rfl (lv_at hl 0 rfl) ?_
    refine zget (ci := 7) (C := RX7) (T := TX7) (N := 42) hx hb hts hi7 hown hK hP hM.1 rfl rfl 3 (by decide) (hts (.fieldLink RX7 17 "LinClusterModel" "publishers" "[I") (by decide +kernel)) (fun _ h9 => h9) (v := .ref (ad 3)) (congrArg (fun z => some (va_rf z)) (((hM.eq hst.1).2.1 3 (by decide)).1)) dX7_respond_38 ?_
    refine lv_iload_n hx hb dX7_respond_41 rfl (lv_at hl 2 rfl) ?_
    refine ziald hx hb hK hP (hM.2.1 3 (by decide)).2.1 (show G.2.2 (ad 3) = 62 from (hM.2.1 3 (by decide)).2.2) (vp_in_nI (n := i8) (N := 62) (by omega) (by omega)) dX7_respond_42 ?_
    refine lv_topi (fun v13 ev13 => ?_)
    rw [(nI_clamp (n := i8) (by omega))] at ev13
    refine lv_iload_n hx hb dX7_respond_43 rfl (lv_at hl 1 rfl) ?_
    refine lv_icmp_ne (tgt := 236) hx hb dX7_respond_44 (by decide) (fun c14 => ?_) (fun c14 => ?_)
    · skip
      refine lv_aload_n hx hb dX7_respond_236 rfl (lv_at hl 0 rfl) ?_
      refine zget (ci := 7) (C := RX7) (T := TX7) (N := 42) hx hb hts hi7 hown hK hP hM.1 rfl rfl 6 (by decide) (hts (.fieldLink RX7 26 "LinClusterModel" "listens" "[Z") (by decide +kernel)) (fun _ h9 => h9) (v := .ref (ad 6)) (congrArg (fun z => some (va_rf z)) (((hM.eq hst.1).2.1 6 (by decide)).1)) dX7_respond_237 ?_
      refine lv_bipush (v := 62) hx hb dX7_respond_240 (by decide) ?_
      refine lv_iload_n hx hb dX7_respond_242 rfl (lv_at hl 1 rfl) ?_
      refine lv_imul hx hb dX7_respond_243 ?_
      refine lv_topi (fun v15 ev15 => ?_)
      obtain rfl : v15 = nI (62 * n8) := ev15.trans (pk_mul 62 n8)
      refine lv_iload_n hx hb dX7_respond_244 rfl (lv_at hl 2 rfl) ?_
      refine lv_iadd hx hb dX7_respond_245 ?_
      refine lv_topi (fun v16 ev16 => ?_)
      obtain rfl : v16 = nI ((62 * n8) + i8) := ev16.trans (nI_add (62 * n8) i8)
      refine zzald hx hb hK hP (hM.2.1 6 (by decide)).2.1 (show G.2.2 (ad 6) = 496 from (hM.2.1 6 (by decide)).2.2) (vp_in_nI (n := ((62 * n8) + i8)) (N := 496) (by omega) (by omega)) dX7_respond_246 ?_
      refine lv_topi (fun v17 ev17 => ?_)
      rw [(nI_clamp (n := ((62 * n8) + i8)) (by omega))] at ev17
      refine lv_if_eq (tgt := 257) hx hb dX7_respond_247 (by decide) (fun c18 => ?_) (fun c18 => ?_)
      · skip
        have kn19 := ev17.symm.trans c18
        exact W.vret hx hb hr (fun t ht hW => ⟨⟨(zpi (zpi (zpi (zpi S (ad 16) n8 1) (ad 28) n8 (nI i8)) (ad 27) n8 0) (ad 32) n8 0), rfl, ⟨hst, hI⟩, by rw [ht]; exact hP, va_K.moved hW.alike hK, hD⟩, hS.F ht⟩) hS.2.2 dX7_respond_257
      · skip
        refine lv_aload_n hx hb dX7_respond_250 rfl (lv_at hl 0 rfl) ?_
        refine zget (ci := 7) (C := RX7) (T := TX7) (N := 42) hx hb hts hi7 hown hK hP hM.1 rfl rfl 16 (by decide) (hts (.fieldLink RX7 53 "LinClusterModel" "at" "[I") (by decide +kernel)) (fun _ h9 => h9) (v := .ref (ad 16)) (congrArg (fun z => some (va_rf z)) (((hM.eq hst.1).2.1 16 (by decide)).1)) dX7_respond_251 ?_
        refine lv_iload_n hx hb dX7_respond_254 rfl (lv_at hl 1 rfl) ?_
        refine lv_iconst (v := 5) hx hb dX7_respond_255 (by decide) ?_
        refine ziast (x := 5) hx hb hK hP hD hS (hM.2.1 16 (by decide)).2.1 (show G.2.2 (ad 16) = 8 from (hM.2.1 16 (by decide)).2.2) (vp_in_nI (n := n8) (N := 8) (by omega) (by omega)) dX7_respond_256 (fun H locs hP hD hS => ?_)
        rw [(nI_clamp (n := n8) (by omega))] at hP hD
        have hst := zC.pa hM hst (k := 16) (by decide) (by decide) n8 5
        have kn20 := zpi_o hM (zpi (zpi (zpi (zpi S (ad 16) n8 1) (ad 28) n8 (nI i8)) (ad 27) n8 0) (ad 32) n8 0) (i := 28) (k := 16) (by decide) (by decide) (by decide) n8 5 kn10
        have kn21 := zpi_o hM (zpi (zpi (zpi (zpi S (ad 16) n8 1) (ad 28) n8 (nI i8)) (ad 27) n8 0) (ad 32) n8 0) (i := 27) (k := 16) (by decide) (by decide) (by decide) n8 5 kn11
        have kn22 := zpi_o hM (zpi (zpi (zpi (zpi S (ad 16) n8 1) (ad 28) n8 (nI i8)) (ad 27) n8 0) (ad 32) n8 0) (i := 32) (k := 16) (by decide) (by decide) (by decide) n8 5 kn12
        have hI := hI.ix hn8
        have hI := hI.st hM 5
        have kn23 := zpi_s (zpi (zpi (zpi (zpi S (ad 16) n8 1) (ad 28) n8 (nI i8)) (ad 27) n8 0) (ad 32) n8 0) (ad 16) n8 5
        have hI := hI.close (fun i L _ _ _ _ => ⟨fun z9 => absurd (kn23.symm.trans z9) (by decide), fun _ => ⟨0, kn21.trans nI_0.symm, by omega⟩⟩)
        exact W.vret hx hb hr (fun t ht hW => ⟨⟨(zpi (zpi (zpi (zpi (zpi S (ad 16) n8 1) (ad 28) n8 (nI i8)) (ad 27) n8 0) (ad 32) n8 0) (ad 16) n8 5), rfl, ⟨hst, hI⟩, by rw [ht]; exact hP, va_K.moved hW.alike hK, hD⟩, hS.F ht⟩) hS.2.2 dX7_respond_257
    · skip
      refine lv_aload_n hx hb dX7_respond_47 rfl (lv_at hl 0 rfl) ?_
      refine zget (ci := 7) (C := RX7) (T := TX7) (N := 42) hx hb hts hi7 hown hK hP hM.1 rfl rfl 16 (by decide) (hts (.fieldLink RX7 53 "LinClusterModel" "at" "[I") (by decide +kernel)) (fun _ h9 => h9) (v := .ref (ad 16)) (congrArg (fun z => some (va_rf z)) (((hM.eq hst.1).2.1 16 (by decide)).1)) dX7_respond_48 ?_
      refine lv_iload_n hx hb dX7_respond_51 rfl (lv_at hl 1 rfl) ?_
      refine lv_iconst (v := 4) hx hb dX7_respond_52 (by decide) ?_
      refine ziast (x := 4) hx hb hK hP hD hS (hM.2.1 16 (by decide)).2.1 (show G.2.2 (ad 16) = 8 from (hM.2.1 16 (by decide)).2.2) (vp_in_nI (n := n8) (N := 8) (by omega) (by omega)) dX7_respond_53 (fun H locs hP hD hS => ?_)
      rw [(nI_clamp (n := n8) (by omega))] at hP hD
      have hst := zC.pa hM hst (k := 16) (by decide) (by decide) n8 4
      have kn24 := zpi_o hM (zpi (zpi (zpi (zpi S (ad 16) n8 1) (ad 28) n8 (nI i8)) (ad 27) n8 0) (ad 32) n8 0) (i := 28) (k := 16) (by decide) (by decide) (by decide) n8 4 kn10
      have kn25 := zpi_o hM (zpi (zpi (zpi (zpi S (ad 16) n8 1) (ad 28) n8 (nI i8)) (ad 27) n8 0) (ad 32) n8 0) (i := 27) (k := 16) (by decide) (by decide) (by decide) n8 4 kn11
      have kn26 := zpi_o hM (zpi (zpi (zpi (zpi S (ad 16) n8 1) (ad 28) n8 (nI i8)) (ad 27) n8 0) (ad 32) n8 0) (i := 32) (k := 16) (by decide) (by decide) (by decide) n8 4 kn12
      have hI := hI.ix hn8
      have hI := hI.st hM 4
      have kn27 := zpi_s (zpi (zpi (zpi (zpi S (ad 16) n8 1) (ad 28) n8 (nI i8)) (ad 27) n8 0) (ad 32) n8 0) (ad 16) n8 4
      refine lv_aload_n hx hb dX7_respond_54 rfl (lv_at hl 0 rfl) ?_
      refine zget (ci := 7) (C := RX7) (T := TX7) (N := 42) hx hb hts hi7 hown hK hP hM.1 rfl rfl 31 (by decide) (hts (.fieldLink RX7 98 "LinClusterModel" "before" "[I") (by decide +kernel)) (fun _ h9 => h9) (v := .ref (ad 31)) (congrArg (fun z => some (va_rf z)) (((hM.eq hst.1).2.1 31 (by decide)).1)) dX7_respond_55 ?_
      refine lv_iload_n hx hb dX7_respond_58 rfl (lv_at hl 1 rfl) ?_
      refine lv_aload_n hx hb dX7_respond_59 rfl (lv_at hl 0 rfl) ?_
      refine zget (ci := 7) (C := RX7) (T := TX7) (N := 42) hx hb hts hi7 hown hK hP hM.1 rfl rfl 12 (by decide) (hts (.fieldLink RX7 41 "LinClusterModel" "spaces" "[I") (by decide +kernel)) (fun _ h9 => h9) (v := .ref (ad 12)) (congrArg (fun z => some (va_rf z)) (((hM.eq hst.1).2.1 12 (by decide)).1)) dX7_respond_60 ?_
      refine lv_iload_n hx hb dX7_respond_63 rfl (lv_at hl 1 rfl) ?_
      refine ziald hx hb hK hP (hM.2.1 12 (by decide)).2.1 (show G.2.2 (ad 12) = 8 from (hM.2.1 12 (by decide)).2.2) (vp_in_nI (n := n8) (N := 8) (by omega) (by omega)) dX7_respond_64 ?_
      refine lv_topi (fun v28 ev28 => ?_)
      rw [(nI_clamp (n := n8) (by omega))] at ev28
      refine ziast (x := v28) hx hb hK hP hD hS (hM.2.1 31 (by decide)).2.1 (show G.2.2 (ad 31) = 8 from (hM.2.1 31 (by decide)).2.2) (vp_in_nI (n := n8) (N := 8) (by omega) (by omega)) dX7_respond_65 (fun H locs hP hD hS => ?_)
      rw [(nI_clamp (n := n8) (by omega))] at hP hD
      have hst := zC.pa hM hst (k := 31) (by decide) (by decide) n8 v28
      have kn29 := zpi_o hM (zpi (zpi (zpi (zpi (zpi S (ad 16) n8 1) (ad 28) n8 (nI i8)) (ad 27) n8 0) (ad 32) n8 0) (ad 16) n8 4) (i := 28) (k := 31) (by decide) (by decide) (by decide) n8 v28 kn24
      have kn30 := zpi_o hM (zpi (zpi (zpi (zpi (zpi S (ad 16) n8 1) (ad 28) n8 (nI i8)) (ad 27) n8 0) (ad 32) n8 0) (ad 16) n8 4) (i := 27) (k := 31) (by decide) (by decide) (by decide) n8 v28 kn25
      have kn31 := zpi_o hM (zpi (zpi (zpi (zpi (zpi S (ad 16) n8 1) (ad 28) n8 (nI i8)) (ad 27) n8 0) (ad 32) n8 0) (ad 16) n8 4) (i := 32) (k := 31) (by decide) (by decide) (by decide) n8 v28 kn26
      have kn32 := zpi_o hM (zpi (zpi (zpi (zpi (zpi S (ad 16) n8 1) (ad 28) n8 (nI i8)) (ad 27) n8 0) (ad 32) n8 0) (ad 16) n8 4) (i := 16) (k := 31) (by decide) (by decide) (by decide) n8 v28 kn27
      have hI := hI.free hM (k := 31) (by decide) (by decide) n8 v28
      have kn33 := zpi_s (zpi (zpi (zpi (zpi (zpi S (ad 16) n8 1) (ad 28) n8 (nI i8)) (ad 27) n8 0) (ad 32) n8 0) (ad 16) n8 4) (ad 31) n8 v28
      refine lv_aload_n hx hb dX7_respond_66 rfl (lv_at hl 0 rfl) ?_
      refine zget (ci := 7) (C := RX7) (T := TX7) (N := 42) hx hb hts hi7 hown hK hP hM.1 rfl rfl 30 (by decide) (hts (.fieldLink RX7 95 "LinClusterModel" "saidBits" "[I") (by decide +kernel)) (fun _ h9 => h9) (v := .ref (ad 30)) (congrArg (fun z => some (va_rf z)) (((hM.eq hst.1).2.1 30 (by decide)).1)) dX7_respond_67 ?_
      refine lv_iload_n hx hb dX7_respond_70 rfl (lv_at hl 1 rfl) ?_
      refine lv_iconst (v := 0) hx hb dX7_respond_71 (by decide) ?_
      refine ziast (x := 0) hx hb hK hP hD hS (hM.2.1 30 (by decide)).2.1 (show G.2.2 (ad 30) = 8 from (hM.2.1 30 (by decide)).2.2) (vp_in_nI (n := n8) (N := 8) (by omega) (by omega)) dX7_respond_72 (fun H locs hP hD hS => ?_)
      rw [(nI_clamp (n := n8) (by omega))] at hP hD
      have hst := zC.pa hM hst (k := 30) (by decide) (by decide) n8 0
      have kn34 := zpi_o hM (zpi (zpi (zpi (zpi (zpi (zpi S (ad 16) n8 1) (ad 28) n8 (nI i8)) (ad 27) n8 0) (ad 32) n8 0) (ad 16) n8 4) (ad 31) n8 v28) (i := 28) (k := 30) (by decide) (by decide) (by decide) n8 0 kn29
      have kn35 := zpi_o hM (zpi (zpi (zpi (zpi (zpi (zpi S (ad 16) n8 1) (ad 28) n8 (nI i8)) (ad 27) n8 0) (ad 32) n8 0) (ad 16) n8 4) (ad 31) n8 v28) (i := 27) (k := 30) (by decide) (by decide) (by decide) n8 0 kn30
      have kn36 := zpi_o hM (zpi (zpi (zpi (zpi (zpi (zpi S (ad 16) n8 1) (ad 28) n8 (nI i8)) (ad 27) n8 0) (ad 32) n8 0) (ad 16) n8 4) (ad 31) n8 v28) (i := 32) (k := 30) (by decide) (by decide) (by decide) n8 0 kn31
      have kn37 := zpi_o hM (zpi (zpi (zpi (zpi (zpi (zpi S (ad 16) n8 1) (ad 28) n8 (nI i8)) (ad 27) n8 0) (ad 32) n8 0) (ad 16) n8 4) (ad 31) n8 v28) (i := 16) (k := 30) (by decide) (by decide) (by decide) n8 0 kn32
      have kn38 := zpi_o hM (zpi (zpi (zpi (zpi (zpi (zpi S (ad 16) n8 1) (ad 28) n8 (nI i8)) (ad 27) n8 0) (ad 32) n8 0) (ad 16) n8 4) (ad 31) n8 v28) (i := 31) (k := 30) (by decide) (by decide) (by decide) n8 0 kn33
      have hI := hI.sb hM 0
      have kn39 := zpi_s (zpi (zpi (zpi (zpi (zpi (zpi S (ad 16) n8 1) (ad 28) n8 (nI i8)) (ad 27) n8 0) (ad 32) n8 0) (ad 16) n8 4) (ad 31) n8 v28) (ad 30) n8 0
      refine lv_iconst (v := 0) hx hb dX7_respond_73 (by decide) ?_
      refine lv_istore_n (lv' := [(3, .int 0), (0, .ref mo), (1, .int (nI n8)), (2, .int (nI i8))]) hx hb dX7_respond_74 rfl hl (by decide) rfl (fun ls hl => ?_)
      obtain ⟨L8, hL8, eL8⟩ := hI.len hi8
      refine zloopW L8 (fun k9 (_ : Unit) => [(0, .ref mo), (1, .int (nI n8)), (2, .int (nI i8)), (3, .int (nI k9))]) (fun _ S' => zC mo ad [7, 8, 16, 17, 18, 19, 20, 21, 22, 23, 24, 25, 26, 27, 28, 29, 30, 31, 32] [34] S S' ∧ zIx mo ad n8 S' ∧ S'.1 (ad 16) n8 = 4 ∧ S'.1 (ad 30) n8 = 0 ∧ S'.1 (ad 2) i8 = nI L8) ?_ ?_ L8 0 () (zpi (zpi (zpi (zpi (zpi (zpi (zpi S (ad 16) n8 1) (ad 28) n8 (nI i8)) (ad 27) n8 0) (ad 32) n8 0) (ad 16) n8 4) (ad 31) n8 v28) (ad 30) n8 0) H locs ls (Nat.zero_add _) ⟨hst, hI, kn37, kn39, eL8⟩ hP hD hS (lv_sub hl [1, 2, 3, 0] rfl)
      · intro x9 S9 H locs ls hJ9 hP hD hS hl
        obtain ⟨hst, hI, k16, k30, k02⟩ := hJ9
        have hl : lv_has ls 5 [(0, .ref mo), (1, .int (nI n8)), (2, .int (nI i8)), (3, .int (nI L8))] := hl
        refine lv_iload_n hx hb dX7_respond_75 rfl (lv_at hl 3 rfl) ?_
        refine lv_aload_n hx hb dX7_respond_76 rfl (lv_at hl 0 rfl) ?_
        refine zget (ci := 7) (C := RX7) (T := TX7) (N := 42) hx hb hts hi7 hown hK hP hM.1 rfl rfl 2 (by decide) (hts (.fieldLink RX7 13 "LinClusterModel" "lengths" "[I") (by decide +kernel)) (fun _ h9 => h9) (v := .ref (ad 2)) (congrArg (fun z => some (va_rf z)) (((hM.eq hst.1).2.1 2 (by decide)).1)) dX7_respond_77 ?_
        refine lv_iload_n hx hb dX7_respond_80 rfl (lv_at hl 2 rfl) ?_
        refine ziald hx hb hK hP (hM.2.1 2 (by decide)).2.1 (show G.2.2 (ad 2) = 62 from (hM.2.1 2 (by decide)).2.2) (vp_in_nI (n := i8) (N := 62) (by omega) (by omega)) dX7_respond_81 ?_
        refine lv_topi (fun v40 ev40 => ?_)
        rw [(nI_clamp (n := i8) (by omega))] at ev40
        obtain rfl : v40 = (nI L8) := ev40.trans k02
        refine lv_icmp_ge (tgt := 113) hx hb dX7_respond_82 (by decide) (fun c41 => ?_) (fun c41 => ?_)
        · skip
          refine lv_aload_n hx hb dX7_respond_113 rfl (lv_at hl 0 rfl) ?_
          refine zget (ci := 7) (C := RX7) (T := TX7) (N := 42) hx hb hts hi7 hown hK hP hM.1 rfl rfl 13 (by decide) (hts (.fieldLink RX7 44 "LinClusterModel" "statusIds" "[I") (by decide +kernel)) (fun _ h9 => h9) (v := .ref (ad 13)) (congrArg (fun z => some (va_rf z)) (((hM.eq hst.1).2.1 13 (by decide)).1)) dX7_respond_114 ?_
          refine lv_iload_n hx hb dX7_respond_117 rfl (lv_at hl 1 rfl) ?_
          refine ziald hx hb hK hP (hM.2.1 13 (by decide)).2.1 (show G.2.2 (ad 13) = 8 from (hM.2.1 13 (by decide)).2.2) (vp_in_nI (n := n8) (N := 8) (by omega) (by omega)) dX7_respond_118 ?_
          refine lv_topi (fun v42 ev42 => ?_)
          rw [(nI_clamp (n := n8) (by omega))] at ev42
          refine lv_iload_n hx hb dX7_respond_119 rfl (lv_at hl 2 rfl) ?_
          refine lv_icmp_ne (tgt := 184) hx hb dX7_respond_120 (by decide) (fun c43 => ?_) (fun c43 => ?_)
          · skip
            refine lv_aload_n hx hb dX7_respond_184 rfl (lv_at hl 0 rfl) ?_
            refine zget (ci := 7) (C := RX7) (T := TX7) (N := 42) hx hb hts hi7 hown hK hP hM.1 rfl rfl 29 (by decide) (hts (.fieldLink RX7 92 "LinClusterModel" "row" "[I") (by decide +kernel)) (fun _ h9 => h9) (v := .ref (ad 29)) (congrArg (fun z => some (va_rf z)) (((hM.eq hst.1).2.1 29 (by decide)).1)) dX7_respond_185 ?_
            refine lv_bipush (v := 16) hx hb dX7_respond_188 (by decide) ?_
            refine lv_iload_n hx hb dX7_respond_190 rfl (lv_at hl 1 rfl) ?_
            refine lv_imul hx hb dX7_respond_191 ?_
            refine lv_topi (fun v44 ev44 => ?_)
            obtain rfl : v44 = nI (16 * n8) := ev44.trans (pk_mul 16 n8)
            refine lv_aload_n hx hb dX7_respond_192 rfl (lv_at hl 0 rfl) ?_
            refine zget (ci := 7) (C := RX7) (T := TX7) (N := 42) hx hb hts hi7 hown hK hP hM.1 rfl rfl 2 (by decide) (hts (.fieldLink RX7 13 "LinClusterModel" "lengths" "[I") (by decide +kernel)) (fun _ h9 => h9) (v := .ref (ad 2)) (congrArg (fun z => some (va_rf z)) (((hM.eq hst.1).2.1 2 (by decide)).1)) dX7_respond_193 ?_
            refine lv_iload_n hx hb dX7_respond_196 rfl (lv_at hl 2 rfl) ?_
            refine ziald hx hb hK hP (hM.2.1 2 (by decide)).2.1 (show G.2.2 (ad 2) = 62 from (hM.2.1 2 (by decide)).2.2) (vp_in_nI (n := i8) (N := 62) (by omega) (by omega)) dX7_respond_197 ?_
            refine lv_topi (fun v45 ev45 => ?_)
            rw [(nI_clamp (n := i8) (by omega))] at ev45
            obtain rfl : v45 = (nI L8) := ev45.trans k02
            refine lv_iadd hx hb dX7_respond_198 ?_
            refine lv_topi (fun v46 ev46 => ?_)
            obtain rfl : v46 = nI ((16 * n8) + L8) := ev46.trans (nI_add (16 * n8) L8)
            refine lv_aload_n hx hb dX7_respond_199 rfl (lv_at hl 0 rfl) ?_
            refine zget (ci := 7) (C := RX7) (T := TX7) (N := 42) hx hb hts hi7 hown hK hP hM.1 rfl rfl 29 (by decide) (hts (.fieldLink RX7 92 "LinClusterModel" "row" "[I") (by decide +kernel)) (fun _ h9 => h9) (v := .ref (ad 29)) (congrArg (fun z => some (va_rf z)) (((hM.eq hst.1).2.1 29 (by decide)).1)) dX7_respond_200 ?_
            refine lv_bipush (v := 16) hx hb dX7_respond_203 (by decide) ?_
            refine lv_iload_n hx hb dX7_respond_205 rfl (lv_at hl 1 rfl) ?_
            refine lv_imul hx hb dX7_respond_206 ?_
            refine lv_topi (fun v47 ev47 => ?_)
            obtain rfl : v47 = nI (16 * n8) := ev47.trans (pk_mul 16 n8)
            refine lv_aload_n hx hb dX7_respond_207 rfl (lv_at hl 0 rfl) ?_
            refine zget (ci := 7) (C := RX7) (T := TX7) (N := 42) hx hb hts hi7 hown hK hP hM.1 rfl rfl 2 (by decide) (hts (.fieldLink RX7 13 "LinClusterModel" "lengths" "[I") (by decide +kernel)) (fun _ h9 => h9) (v := .ref (ad 2)) (congrArg (fun z => some (va_rf z)) (((hM.eq hst.1).2.1 2 (by decide)).1)) dX7_respond_208 ?_
            refine lv_iload_n hx hb dX7_respond_211 rfl (lv_at hl 2 rfl) ?_
            refine ziald hx hb hK hP (hM.2.1 2 (by decide)).2.1 (show G.2.2 (ad 2) = 62 from (hM.2.1 2 (by decide)).2.2) (vp_in_nI (n := i8) (N := 62) (by omega) (by omega)) dX7_respond_212 ?_
            refine lv_topi (fun v48 ev48 => ?_)
            rw [(nI_clamp (n := i8) (by omega))] at ev48
            obtain rfl : v48 = (nI L8) := ev48.trans k02
            refine lv_aload_n hx hb dX7_respond_213 rfl (lv_at hl 0 rfl) ?_
            refine lv_iload_n hx hb dX7_respond_214 rfl (lv_at hl 2 rfl) ?_
            refine vp_callSi (va_Run.run (va_runV (As := [.int (nI i8)]) (rest := [.int (nI L8), .int (nI (16 * n8)), .ref (ad 29), .int (nI ((16 * n8) + L8)), .ref (ad 29)]) ⟨hx, hb, hml, hown, hts⟩ (c_X7_isEnhanced l dC dI cy G S9 H.size mo ad i8 (hM.eq hst.1) (by omega)) (cwV 1 hts gX7_respond_X7_isEnhanced rfl rfl rfl (by decide +kernel) ⟨Nat.le_of_ble_eq_true rfl, Nat.le_of_ble_eq_true rfl⟩) (zpreV hK hP hD hN (zrecv7 hK hP hM.1)) rfl rfl hl.1 rfl (lv_room (Nat.le_of_ble_eq_true rfl)) dX7_respond_215 ⟨Nat.le_of_ble_eq_true rfl, Nat.le_of_ble_eq_true rfl⟩)) (fun r49 hr49 => ?_)
            refine lv_if_eq (tgt := 228) hx hb dX7_respond_218 (by decide) (fun c50 => ?_) (fun c50 => ?_)
            · skip
              refine lv_iconst (v := 0) hx hb dX7_respond_228 (by decide) ?_
              refine vp_callSi (va_Run.run (va_runS (As := [.ref (ad 29), .int (nI (16 * n8)), .int (nI L8), .int 0]) (rest := [.int (nI ((16 * n8) + L8)), .ref (ad 29)]) ⟨hx, hb, hml, hown, hts⟩ (c_X7_checksum l dC dI cy G S9 H.size (ad 29) (16 * n8) L8 128 0 (hM.2.1 29 (by decide)).2.1 (show G.2.2 (ad 29) = 128 from (hM.2.1 29 (by decide)).2.2) (by omega) (by omega)) (va_cwS 4 hts gX7_respond_X7_checksum rfl rfl rfl (by decide +kernel) ⟨Nat.le_of_ble_eq_true rfl, Nat.le_of_ble_eq_true rfl⟩) (zpreS hK hP hD hN) rfl rfl hl.1 rfl (lv_room (Nat.le_of_ble_eq_true rfl)) dX7_respond_229 ⟨Nat.le_of_ble_eq_true rfl, Nat.le_of_ble_eq_true rfl⟩)) (fun r51 hr51 => ?_)
              refine ziast (x := r51) hx hb hK hP hD hS (hM.2.1 29 (by decide)).2.1 (show G.2.2 (ad 29) = 128 from (hM.2.1 29 (by decide)).2.2) (vp_in_nI (n := ((16 * n8) + L8)) (N := 128) (by omega) (by omega)) dX7_respond_232 (fun H locs hP hD hS => ?_)
              rw [(nI_clamp (n := ((16 * n8) + L8)) (by omega))] at hP hD
              have hst := zC.pa hM hst (k := 29) (by decide) (by decide) ((16 * n8) + L8) r51
              have kn52 := zpi_o hM S9 (i := 16) (k := 29) (by decide) (by decide) (by decide) ((16 * n8) + L8) r51 k16
              have kn53 := zpi_o hM S9 (i := 30) (k := 29) (by decide) (by decide) (by decide) ((16 * n8) + L8) r51 k30
              have kn54 := zpi_o hM S9 (i := 2) (k := 29) (by decide) (by decide) (by decide) ((16 * n8) + L8) r51 k02
              have hI := hI.free hM (k := 29) (by decide) (by decide) ((16 * n8) + L8) r51
              have kn55 := zpi_s S9 (ad 29) ((16 * n8) + L8) r51
              refine lv_goto (tgt := 257) hx hb dX7_respond_233 (by decide) ?_
              have hI := hI.close (fun i L _ _ _ _ => ⟨fun _ => ⟨0, kn53.trans nI_0.symm, by omega⟩, fun z9 => absurd (kn52.symm.trans z9) (by decide)⟩)
              exact W.vret hx hb hr (fun t ht hW => ⟨⟨(zpi S9 (ad 29) ((16 * n8) + L8) r51), rfl, ⟨hst, hI⟩, by rw [ht]; exact hP, va_K.moved hW.alike hK, hD⟩, hS.F ht⟩) hS.2.2 dX7_respond_257
            · skip
              refine lv_iload_n hx hb dX7_respond_221 rfl (lv_at hl 2 rfl) ?_
              refine vp_callSi (va_Run.run (va_runS (As := [.int (nI i8)]) (rest := [.int (nI L8), .int (nI (16 * n8)), .ref (ad 29), .int (nI ((16 * n8) + L8)), .ref (ad 29)]) ⟨hx, hb, hml, hown, hts⟩ (c_X7_pidOf l (nI i8)) (va_cwS 1 hts gX7_respond_X7_pidOf rfl rfl rfl (by decide +kernel) ⟨Nat.le_of_ble_eq_true rfl, Nat.le_of_ble_eq_true rfl⟩) zpreS0 rfl rfl hl.1 rfl (lv_room (Nat.le_of_ble_eq_true rfl)) dX7_respond_222 ⟨Nat.le_of_ble_eq_true rfl, Nat.le_of_ble_eq_true rfl⟩)) (fun r56 hr56 => ?_)
              refine lv_goto (tgt := 229) hx hb dX7_respond_225 (by decide) ?_
              refine vp_callSi (va_Run.run (va_runS (As := [.ref (ad 29), .int (nI (16 * n8)), .int (nI L8), .int r56]) (rest := [.int (nI ((16 * n8) + L8)), .ref (ad 29)]) ⟨hx, hb, hml, hown, hts⟩ (c_X7_checksum l dC dI cy G S9 H.size (ad 29) (16 * n8) L8 128 r56 (hM.2.1 29 (by decide)).2.1 (show G.2.2 (ad 29) = 128 from (hM.2.1 29 (by decide)).2.2) (by omega) (by omega)) (va_cwS 4 hts gX7_respond_X7_checksum rfl rfl rfl (by decide +kernel) ⟨Nat.le_of_ble_eq_true rfl, Nat.le_of_ble_eq_true rfl⟩) (zpreS hK hP hD hN) rfl rfl hl.1 rfl (lv_room (Nat.le_of_ble_eq_true rfl)) dX7_respond_229 ⟨Nat.le_of_ble_eq_true rfl, Nat.le_of_ble_eq_true rfl⟩)) (fun r57 hr57 => ?_)
              refine ziast (x := r57) hx hb hK hP hD hS (hM.2.1 29 (by decide)).2.1 (show G.2.2 (ad 29) = 128 from (hM.2.1 29 (by decide)).2.2) (vp_in_nI (n := ((16 * n8) + L8)) (N := 128) (by omega) (by omega)) dX7_respond_232 (fun H locs hP hD hS => ?_)
              rw [(nI_clamp (n := ((16 * n8) + L8)) (by omega))] at hP hD
              have hst := zC.pa hM hst (k := 29) (by decide) (by decide) ((16 * n8) + L8) r57
              have kn58 := zpi_o hM S9 (i := 16) (k := 29) (by decide) (by decide) (by decide) ((16 * n8) + L8) r57 k16
              have kn59 := zpi_o hM S9 (i := 30) (k := 29) (by decide) (by decide) (by decide) ((16 * n8) + L8) r57 k30
              have kn60 := zpi_o hM S9 (i := 2) (k := 29) (by decide) (by decide) (by decide) ((16 * n8) + L8) r57 k02
              have hI := hI.free hM (k := 29) (by decide) (by decide) ((16 * n8) + L8) r57
              have kn61 := zpi_s S9 (ad 29) ((16 * n8) + L8) r57
              refine lv_goto (tgt := 257) hx hb dX7_respond_233 (by decide) ?_
              have hI := hI.close (fun i L _ _ _ _ => ⟨fun _ => ⟨0, kn59.trans nI_0.symm, by omega⟩, fun z9 => absurd (kn58.symm.trans z9) (by decide)⟩)
              exact W.vret hx hb hr (fun t ht hW => ⟨⟨(zpi S9 (ad 29) ((16 * n8) + L8) r57), rfl, ⟨hst, hI⟩, by rw [ht]; exact hP, va_K.moved hW.alike hK, hD⟩, hS.F ht⟩) hS.2.2 dX7_respond_257
          · skip
            refine lv_iconst (v := 1) hx hb dX7_respond_123 (by decide) ?_
            refine lv_aload_n hx hb dX7_respond_124 rfl (lv_at hl 0 rfl) ?_
            refine zget (ci := 7) (C := RX7) (T := TX7) (N := 42) hx hb hts hi7 hown hK hP hM.1 rfl rfl 15 (by decide) (hts (.fieldLink RX7 50 "LinClusterModel" "statusBits" "[I") (by decide +kernel)) (fun _ h9 => h9) (v := .ref (ad 15)) (congrArg (fun z => some (va_rf z)) (((hM.eq hst.1).2.1 15 (by decide)).1)) dX7_respond_125 ?_
            refine lv_iload_n hx hb dX7_respond_128 rfl (lv_at hl 1 rfl) ?_
            refine ziald hx hb hK hP (hM.2.1 15 (by decide)).2.1 (show G.2.2 (ad 15) = 8 from (hM.2.1 15 (by decide)).2.2) (vp_in_nI (n := n8) (N := 8) (by omega) (by omega)) dX7_respond_129 ?_
            refine lv_topi (fun v62 ev62 => ?_)
            rw [(nI_clamp (n := n8) (by omega))] at ev62
            refine lv_ishl hx hb dX7_respond_130 ?_
            refine lv_topi (fun v63 ev63 => ?_)
            refine lv_istore_n (lv' := [(3, .int v63), (0, .ref mo), (1, .int (nI n8)), (2, .int (nI i8))]) hx hb dX7_respond_131 rfl hl (by decide) rfl (fun ls hl => ?_)
            refine lv_bipush (v := 16) hx hb dX7_respond_132 (by decide) ?_
            refine lv_iload_n hx hb dX7_respond_134 rfl (lv_at hl 2 rfl) ?_
            refine lv_imul hx hb dX7_respond_135 ?_
            refine lv_topi (fun v64 ev64 => ?_)
            obtain rfl : v64 = nI (16 * n8) := ev64.trans (pk_mul 16 n8)
            refine lv_aload_n hx hb dX7_respond_136 rfl (lv_at hl 1 rfl) ?_
            refine zget (ci := 7) (C := RX7) (T := TX7) (N := 42) hx hb hts hi7 hown hK hP hM.1 rfl rfl 14 (by decide) (hts (.fieldLink RX7 47 "LinClusterModel" "statusBytes" "[I") (by decide +kernel)) (fun _ h9 => h9) (v := .ref (ad 14)) (congrArg (fun z => some (va_rf z)) (((hM.eq hst.1).2.1 14 (by decide)).1)) dX7_respond_137 ?_
            refine lv_iload_n hx hb dX7_respond_140 rfl (lv_at hl 2 rfl) ?_
            refine ziald hx hb hK hP (hM.2.1 14 (by decide)).2.1 (show G.2.2 (ad 14) = 8 from (hM.2.1 14 (by decide)).2.2) (vp_in_nI (n := n8) (N := 8) (by omega) (by omega)) dX7_respond_141 ?_
            refine lv_topi (fun v65 ev65 => ?_)
            rw [(nI_clamp (n := n8) (by omega))] at ev65
            obtain ⟨b8, hb8, eb8⟩ := hI.1.2.2.1
            obtain rfl : v65 = nI b8 := ev65.trans eb8
            refine lv_iadd hx hb dX7_respond_142 ?_
            refine lv_topi (fun v66 ev66 => ?_)
            obtain rfl : v66 = nI ((16 * n8) + b8) := ev66.trans (nI_add (16 * n8) b8)
            refine lv_istore (lv' := [(4, .int (nI ((16 * n8) + b8))), (3, .int v63), (0, .ref mo), (1, .int (nI n8)), (2, .int (nI i8))]) hx hb dX7_respond_143 hl (by decide) rfl (fun ls hl => ?_)
            refine lv_aload_n hx hb dX7_respond_145 rfl (lv_at hl 2 rfl) ?_
            refine zget (ci := 7) (C := RX7) (T := TX7) (N := 42) hx hb hts hi7 hown hK hP hM.1 rfl rfl 29 (by decide) (hts (.fieldLink RX7 92 "LinClusterModel" "row" "[I") (by decide +kernel)) (fun _ h9 => h9) (v := .ref (ad 29)) (congrArg (fun z => some (va_rf z)) (((hM.eq hst.1).2.1 29 (by decide)).1)) dX7_respond_146 ?_
            refine lv_iload hx hb dX7_respond_149 (lv_at hl 0 rfl) ?_
            refine lv_aload_n hx hb dX7_respond_151 rfl (lv_at hl 2 rfl) ?_
            refine zget (ci := 7) (C := RX7) (T := TX7) (N := 42) hx hb hts hi7 hown hK hP hM.1 rfl rfl 17 (by decide) (hts (.fieldLink RX7 56 "LinClusterModel" "errors" "[Z") (by decide +kernel)) (fun _ h9 => h9) (v := .ref (ad 17)) (congrArg (fun z => some (va_rf z)) (((hM.eq hst.1).2.1 17 (by decide)).1)) dX7_respond_152 ?_
            refine lv_iload_n hx hb dX7_respond_155 rfl (lv_at hl 3 rfl) ?_
            refine zzald hx hb hK hP (hM.2.1 17 (by decide)).2.1 (show G.2.2 (ad 17) = 8 from (hM.2.1 17 (by decide)).2.2) (vp_in_nI (n := n8) (N := 8) (by omega) (by omega)) dX7_respond_156 ?_
            refine lv_topi (fun v67 ev67 => ?_)
            rw [(nI_clamp (n := n8) (by omega))] at ev67
            refine lv_if_eq (tgt := 172) hx hb dX7_respond_157 (by decide) (fun c68 => ?_) (fun c68 => ?_)
            · skip
              have kn69 := ev67.symm.trans c68
              refine lv_aload_n hx hb dX7_respond_172 rfl (lv_at hl 2 rfl) ?_
              refine zget (ci := 7) (C := RX7) (T := TX7) (N := 42) hx hb hts hi7 hown hK hP hM.1 rfl rfl 29 (by decide) (hts (.fieldLink RX7 92 "LinClusterModel" "row" "[I") (by decide +kernel)) (fun _ h9 => h9) (v := .ref (ad 29)) (congrArg (fun z => some (va_rf z)) (((hM.eq hst.1).2.1 29 (by decide)).1)) dX7_respond_173 ?_
              refine lv_iload hx hb dX7_respond_176 (lv_at hl 0 rfl) ?_
              refine ziald hx hb hK hP (hM.2.1 29 (by decide)).2.1 (show G.2.2 (ad 29) = 128 from (hM.2.1 29 (by decide)).2.2) (vp_in_nI (n := ((16 * n8) + b8)) (N := 128) (by omega) (by omega)) dX7_respond_178 ?_
              refine lv_topi (fun v70 ev70 => ?_)
              rw [(nI_clamp (n := ((16 * n8) + b8)) (by omega))] at ev70
              refine lv_iload_n hx hb dX7_respond_179 rfl (lv_at hl 1 rfl) ?_
              refine lv_iconst (v := (-1)) hx hb dX7_respond_180 (by decide) ?_
              refine lv_ixor hx hb dX7_respond_181 ?_
              refine lv_topi (fun v71 ev71 => ?_)
              refine lv_iand hx hb dX7_respond_182 ?_
              refine lv_topi (fun v72 ev72 => ?_)
              refine ziast (x := v72) hx hb hK hP hD hS (hM.2.1 29 (by decide)).2.1 (show G.2.2 (ad 29) = 128 from (hM.2.1 29 (by decide)).2.2) (vp_in_nI (n := ((16 * n8) + b8)) (N := 128) (by omega) (by omega)) dX7_respond_183 (fun H locs hP hD hS => ?_)
              rw [(nI_clamp (n := ((16 * n8) + b8)) (by omega))] at hP hD
              have hst := zC.pa hM hst (k := 29) (by decide) (by decide) ((16 * n8) + b8) v72
              have kn73 := zpi_o hM S9 (i := 16) (k := 29) (by decide) (by decide) (by decide) ((16 * n8) + b8) v72 k16
              have kn74 := zpi_o hM S9 (i := 30) (k := 29) (by decide) (by decide) (by decide) ((16 * n8) + b8) v72 k30
              have kn75 := zpi_o hM S9 (i := 2) (k := 29) (by decide) (by decide) (by decide) ((16 * n8) + b8) v72 k02
              have kn76 := zpi_o hM S9 (i := 17) (k := 29) (by decide) (by decide) (by decide) ((16 * n8) + b8) v72 kn69
              have hI := hI.free hM (k := 29) (by decide) (by decide) ((16 * n8) + b8) v72
              have kn77 := zpi_s S9 (ad 29) ((16 * n8) + b8) v72
              refine lv_aload_n hx hb dX7_respond_184 rfl (lv_at hl 2 rfl) ?_
              refine zget (ci := 7) (C := RX7) (T := TX7) (N := 42) hx hb hts hi7 hown hK hP hM.1 rfl rfl 29 (by decide) (hts (.fieldLink RX7 92 "LinClusterModel" "row" "[I") (by decide +kernel)) (fun _ h9 => h9) (v := .ref (ad 29)) (congrArg (fun z => some (va_rf z)) (((hM.eq hst.1).2.1 29 (by decide)).1)) dX7_respond_185 ?_
              refine lv_bipush (v := 16) hx hb dX7_respond_188 (by decide) ?_
              refine lv_iload_n hx hb dX7_respond_190 rfl (lv_at hl 3 rfl) ?_
              refine lv_imul hx hb dX7_respond_191 ?_
              refine lv_topi (fun v78 ev78 => ?_)
              obtain rfl : v78 = nI (16 * n8) := ev78.trans (pk_mul 16 n8)
              refine lv_aload_n hx hb dX7_respond_192 rfl (lv_at hl 2 rfl) ?_
              refine zget (ci := 7) (C := RX7) (T := TX7) (N := 42) hx hb hts hi7 hown hK hP hM.1 rfl rfl 2 (by decide) (hts (.fieldLink RX7 13 "LinClusterModel" "lengths" "[I") (by decide +kernel)) (fun _ h9 => h9) (v := .ref (ad 2)) (congrArg (fun z => some (va_rf z)) (((hM.eq hst.1).2.1 2 (by decide)).1)) dX7_respond_193 ?_
              refine lv_iload_n hx hb dX7_respond_196 rfl (lv_at hl 4 rfl) ?_
              refine ziald hx hb hK hP (hM.2.1 2 (by decide)).2.1 (show G.2.2 (ad 2) = 62 from (hM.2.1 2 (by decide)).2.2) (vp_in_nI (n := i8) (N := 62) (by omega) (by omega)) dX7_respond_197 ?_
              refine lv_topi (fun v79 ev79 => ?_)
              rw [(nI_clamp (n := i8) (by omega))] at ev79
              obtain rfl : v79 = (nI L8) := ev79.trans kn75
              refine lv_iadd hx hb dX7_respond_198 ?_
              refine lv_topi (fun v80 ev80 => ?_)
              obtain rfl : v80 = nI ((16 * n8) + L8) := ev80.trans (nI_add (16 * n8) L8)
              refine lv_aload_n hx hb dX7_respond_199 rfl (lv_at hl 2 rfl) ?_
              refine zget (ci := 7) (C := RX7) (T := TX7) (N := 42) hx hb hts hi7 hown hK hP hM.1 rfl rfl 29 (by decide) (hts (.fieldLink RX7 92 "LinClusterModel" "row" "[I") (by decide +kernel)) (fun _ h9 => h9) (v := .ref (ad 29)) (congrArg (fun z => some (va_rf z)) (((hM.eq hst.1).2.1 29 (by decide)).1)) dX7_respond_200 ?_
              refine lv_bipush (v := 16) hx hb dX7_respond_203 (by decide) ?_
              refine lv_iload_n hx hb dX7_respond_205 rfl (lv_at hl 3 rfl) ?_
              refine lv_imul hx hb dX7_respond_206 ?_
              refine lv_topi (fun v81 ev81 => ?_)
              obtain rfl : v81 = nI (16 * n8) := ev81.trans (pk_mul 16 n8)
              refine lv_aload_n hx hb dX7_respond_207 rfl (lv_at hl 2 rfl) ?_
              refine zget (ci := 7) (C := RX7) (T := TX7) (N := 42) hx hb hts hi7 hown hK hP hM.1 rfl rfl 2 (by decide) (hts (.fieldLink RX7 13 "LinClusterModel" "lengths" "[I") (by decide +kernel)) (fun _ h9 => h9) (v := .ref (ad 2)) (congrArg (fun z => some (va_rf z)) (((hM.eq hst.1).2.1 2 (by decide)).1)) dX7_respond_208 ?_
              refine lv_iload_n hx hb dX7_respond_211 rfl (lv_at hl 4 rfl) ?_
              refine ziald hx hb hK hP (hM.2.1 2 (by decide)).2.1 (show G.2.2 (ad 2) = 62 from (hM.2.1 2 (by decide)).2.2) (vp_in_nI (n := i8) (N := 62) (by omega) (by omega)) dX7_respond_212 ?_
              refine lv_topi (fun v82 ev82 => ?_)
              rw [(nI_clamp (n := i8) (by omega))] at ev82
              obtain rfl : v82 = (nI L8) := ev82.trans kn75
              refine lv_aload_n hx hb dX7_respond_213 rfl (lv_at hl 2 rfl) ?_
              refine lv_iload_n hx hb dX7_respond_214 rfl (lv_at hl 4 rfl) ?_
              refine vp_callSi (va_Run.run (va_runV (As := [.int (nI i8)]) (rest := [.int (nI L8), .int (nI (16 * n8)), .ref (ad 29), .int (nI ((16 * n8) + L8)), .ref (ad 29)]) ⟨hx, hb, hml, hown, hts⟩ (c_X7_isEnhanced l dC dI cy G (zpi S9 (ad 29) ((16 * n8) + b8) v72) H.size mo ad i8 (hM.eq hst.1) (by omega)) (cwV 1 hts gX7_respond_X7_isEnhanced rfl rfl rfl (by decide +kernel) ⟨Nat.le_of_ble_eq_true rfl, Nat.le_of_ble_eq_true rfl⟩) (zpreV hK hP hD hN (zrecv7 hK hP hM.1)) rfl rfl hl.1 rfl (lv_room (Nat.le_of_ble_eq_true rfl)) dX7_respond_215 ⟨Nat.le_of_ble_eq_true rfl, Nat.le_of_ble_eq_true rfl⟩)) (fun r83 hr83 => ?_)
              refine lv_if_eq (tgt := 228) hx hb dX7_respond_218 (by decide) (fun c84 => ?_) (fun c84 => ?_)
              · skip
                refine lv_iconst (v := 0) hx hb dX7_respond_228 (by decide) ?_
                refine vp_callSi (va_Run.run (va_runS (As := [.ref (ad 29), .int (nI (16 * n8)), .int (nI L8), .int 0]) (rest := [.int (nI ((16 * n8) + L8)), .ref (ad 29)]) ⟨hx, hb, hml, hown, hts⟩ (c_X7_checksum l dC dI cy G (zpi S9 (ad 29) ((16 * n8) + b8) v72) H.size (ad 29) (16 * n8) L8 128 0 (hM.2.1 29 (by decide)).2.1 (show G.2.2 (ad 29) = 128 from (hM.2.1 29 (by decide)).2.2) (by omega) (by omega)) (va_cwS 4 hts gX7_respond_X7_checksum rfl rfl rfl (by decide +kernel) ⟨Nat.le_of_ble_eq_true rfl, Nat.le_of_ble_eq_true rfl⟩) (zpreS hK hP hD hN) rfl rfl hl.1 rfl (lv_room (Nat.le_of_ble_eq_true rfl)) dX7_respond_229 ⟨Nat.le_of_ble_eq_true rfl, Nat.le_of_ble_eq_true rfl⟩)) (fun r85 hr85 => ?_)
                refine ziast (x := r85) hx hb hK hP hD hS (hM.2.1 29 (by decide)).2.1 (show G.2.2 (ad 29) = 128 from (hM.2.1 29 (by decide)).2.2) (vp_in_nI (n := ((16 * n8) + L8)) (N := 128) (by omega) (by omega)) dX7_respond_232 (fun H locs hP hD hS => ?_)
                rw [(nI_clamp (n := ((16 * n8) + L8)) (by omega))] at hP hD
                have hst := zC.pa hM hst (k := 29) (by decide) (by decide) ((16 * n8) + L8) r85
                have kn86 := zpi_o hM (zpi S9 (ad 29) ((16 * n8) + b8) v72) (i := 16) (k := 29) (by decide) (by decide) (by decide) ((16 * n8) + L8) r85 kn73
                have kn87 := zpi_o hM (zpi S9 (ad 29) ((16 * n8) + b8) v72) (i := 30) (k := 29) (by decide) (by decide) (by decide) ((16 * n8) + L8) r85 kn74
                have kn88 := zpi_o hM (zpi S9 (ad 29) ((16 * n8) + b8) v72) (i := 2) (k := 29) (by decide) (by decide) (by decide) ((16 * n8) + L8) r85 kn75
                have kn89 := zpi_o hM (zpi S9 (ad 29) ((16 * n8) + b8) v72) (i := 17) (k := 29) (by decide) (by decide) (by decide) ((16 * n8) + L8) r85 kn76
                have hI := hI.free hM (k := 29) (by decide) (by decide) ((16 * n8) + L8) r85
                have kn90 := zpi_s (zpi S9 (ad 29) ((16 * n8) + b8) v72) (ad 29) ((16 * n8) + L8) r85
                refine lv_goto (tgt := 257) hx hb dX7_respond_233 (by decide) ?_
                have hI := hI.close (fun i L _ _ _ _ => ⟨fun _ => ⟨0, kn87.trans nI_0.symm, by omega⟩, fun z9 => absurd (kn86.symm.trans z9) (by decide)⟩)
                exact W.vret hx hb hr (fun t ht hW => ⟨⟨(zpi (zpi S9 (ad 29) ((16 * n8) + b8) v72) (ad 29) ((16 * n8) + L8) r85), rfl, ⟨hst, hI⟩, by rw [ht]; exact hP, va_K.moved hW.alike hK, hD⟩, hS.F ht⟩) hS.2.2 dX7_respond_257
              · skip
                refine lv_iload_n hx hb dX7_respond_221 rfl (lv_at hl 4 rfl) ?_
                refine vp_callSi (va_Run.run (va_runS (As := [.int (nI i8)]) (rest := [.int (nI L8), .int (nI (16 * n8)), .ref (ad 29), .int (nI ((16 * n8) + L8)), .ref (ad 29)]) ⟨hx, hb, hml, hown, hts⟩ (c_X7_pidOf l (nI i8)) (va_cwS 1 hts gX7_respond_X7_pidOf rfl rfl rfl (by decide +kernel) ⟨Nat.le_of_ble_eq_true rfl, Nat.le_of_ble_eq_true rfl⟩) zpreS0 rfl rfl hl.1 rfl (lv_room (Nat.le_of_ble_eq_true rfl)) dX7_respond_222 ⟨Nat.le_of_ble_eq_true rfl, Nat.le_of_ble_eq_true rfl⟩)) (fun r91 hr91 => ?_)
                refine lv_goto (tgt := 229) hx hb dX7_respond_225 (by decide) ?_
                refine vp_callSi (va_Run.run (va_runS (As := [.ref (ad 29), .int (nI (16 * n8)), .int (nI L8), .int r91]) (rest := [.int (nI ((16 * n8) + L8)), .ref (ad 29)]) ⟨hx, hb, hml, hown, hts⟩ (c_X7_checksum l dC dI cy G (zpi S9 (ad 29) ((16 * n8) + b8) v72) H.size (ad 29) (16 * n8) L8 128 r91 (hM.2.1 29 (by decide)).2.1 (show G.2.2 (ad 29) = 128 from (hM.2.1 29 (by decide)).2.2) (by omega) (by omega)) (va_cwS 4 hts gX7_respond_X7_checksum rfl rfl rfl (by decide +kernel) ⟨Nat.le_of_ble_eq_true rfl, Nat.le_of_ble_eq_true rfl⟩) (zpreS hK hP hD hN) rfl rfl hl.1 rfl (lv_room (Nat.le_of_ble_eq_true rfl)) dX7_respond_229 ⟨Nat.le_of_ble_eq_true rfl, Nat.le_of_ble_eq_true rfl⟩)) (fun r92 hr92 => ?_)
                refine ziast (x := r92) hx hb hK hP hD hS (hM.2.1 29 (by decide)).2.1 (show G.2.2 (ad 29) = 128 from (hM.2.1 29 (by decide)).2.2) (vp_in_nI (n := ((16 * n8) + L8)) (N := 128) (by omega) (by omega)) dX7_respond_232 (fun H locs hP hD hS => ?_)
                rw [(nI_clamp (n := ((16 * n8) + L8)) (by omega))] at hP hD
                have hst := zC.pa hM hst (k := 29) (by decide) (by decide) ((16 * n8) + L8) r92
                have kn93 := zpi_o hM (zpi S9 (ad 29) ((16 * n8) + b8) v72) (i := 16) (k := 29) (by decide) (by decide) (by decide) ((16 * n8) + L8) r92 kn73
                have kn94 := zpi_o hM (zpi S9 (ad 29) ((16 * n8) + b8) v72) (i := 30) (k := 29) (by decide) (by decide) (by decide) ((16 * n8) + L8) r92 kn74
                have kn95 := zpi_o hM (zpi S9 (ad 29) ((16 * n8) + b8) v72) (i := 2) (k := 29) (by decide) (by decide) (by decide) ((16 * n8) + L8) r92 kn75
                have kn96 := zpi_o hM (zpi S9 (ad 29) ((16 * n8) + b8) v72) (i := 17) (k := 29) (by decide) (by decide) (by decide) ((16 * n8) + L8) r92 kn76
                have hI := hI.free hM (k := 29) (by decide) (by decide) ((16 * n8) + L8) r92
                have kn97 := zpi_s (zpi S9 (ad 29) ((16 * n8) + b8) v72) (ad 29) ((16 * n8) + L8) r92
                refine lv_goto (tgt := 257) hx hb dX7_respond_233 (by decide) ?_
                have hI := hI.close (fun i L _ _ _ _ => ⟨fun _ => ⟨0, kn94.trans nI_0.symm, by omega⟩, fun z9 => absurd (kn93.symm.trans z9) (by decide)⟩)
                exact W.vret hx hb hr (fun t ht hW => ⟨⟨(zpi (zpi S9 (ad 29) ((16 * n8) + b8) v72) (ad 29) ((16 * n8) + L8) r92), rfl, ⟨hst, hI⟩, by rw [ht]; exact hP, va_K.moved hW.alike hK, hD⟩, hS.F ht⟩) hS.2.2 dX7_respond_257
            · skip
              refine lv_aload_n hx hb dX7_respond_160 rfl (lv_at hl 2 rfl) ?_
              refine zget (ci := 7) (C := RX7) (T := TX7) (N := 42) hx hb hts hi7 hown hK hP hM.1 rfl rfl 29 (by decide) (hts (.fieldLink RX7 92 "LinClusterModel" "row" "[I") (by decide +kernel)) (fun _ h9 => h9) (v := .ref (ad 29)) (congrArg (fun z => some (va_rf z)) (((hM.eq hst.1).2.1 29 (by decide)).1)) dX7_respond_161 ?_
              refine lv_iload hx hb dX7_respond_164 (lv_at hl 0 rfl) ?_
              refine ziald hx hb hK hP (hM.2.1 29 (by decide)).2.1 (show G.2.2 (ad 29) = 128 from (hM.2.1 29 (by decide)).2.2) (vp_in_nI (n := ((16 * n8) + b8)) (N := 128) (by omega) (by omega)) dX7_respond_166 ?_
              refine lv_topi (fun v98 ev98 => ?_)
              rw [(nI_clamp (n := ((16 * n8) + b8)) (by omega))] at ev98
              refine lv_iload_n hx hb dX7_respond_167 rfl (lv_at hl 1 rfl) ?_
              refine lv_ior hx hb dX7_respond_168 ?_
              refine lv_topi (fun v99 ev99 => ?_)
              refine lv_goto (tgt := 183) hx hb dX7_respond_169 (by decide) ?_
              refine ziast (x := v99) hx hb hK hP hD hS (hM.2.1 29 (by decide)).2.1 (show G.2.2 (ad 29) = 128 from (hM.2.1 29 (by decide)).2.2) (vp_in_nI (n := ((16 * n8) + b8)) (N := 128) (by omega) (by omega)) dX7_respond_183 (fun H locs hP hD hS => ?_)
              rw [(nI_clamp (n := ((16 * n8) + b8)) (by omega))] at hP hD
              have hst := zC.pa hM hst (k := 29) (by decide) (by decide) ((16 * n8) + b8) v99
              have kn100 := zpi_o hM S9 (i := 16) (k := 29) (by decide) (by decide) (by decide) ((16 * n8) + b8) v99 k16
              have kn101 := zpi_o hM S9 (i := 30) (k := 29) (by decide) (by decide) (by decide) ((16 * n8) + b8) v99 k30
              have kn102 := zpi_o hM S9 (i := 2) (k := 29) (by decide) (by decide) (by decide) ((16 * n8) + b8) v99 k02
              have hI := hI.free hM (k := 29) (by decide) (by decide) ((16 * n8) + b8) v99
              have kn103 := zpi_s S9 (ad 29) ((16 * n8) + b8) v99
              refine lv_aload_n hx hb dX7_respond_184 rfl (lv_at hl 2 rfl) ?_
              refine zget (ci := 7) (C := RX7) (T := TX7) (N := 42) hx hb hts hi7 hown hK hP hM.1 rfl rfl 29 (by decide) (hts (.fieldLink RX7 92 "LinClusterModel" "row" "[I") (by decide +kernel)) (fun _ h9 => h9) (v := .ref (ad 29)) (congrArg (fun z => some (va_rf z)) (((hM.eq hst.1).2.1 29 (by decide)).1)) dX7_respond_185 ?_
              refine lv_bipush (v := 16) hx hb dX7_respond_188 (by decide) ?_
              refine lv_iload_n hx hb dX7_respond_190 rfl (lv_at hl 3 rfl) ?_
              refine lv_imul hx hb dX7_respond_191 ?_
              refine lv_topi (fun v104 ev104 => ?_)
              obtain rfl : v104 = nI (16 * n8) := ev104.trans (pk_mul 16 n8)
              refine lv_aload_n hx hb dX7_respond_192 rfl (lv_at hl 2 rfl) ?_
              refine zget (ci := 7) (C := RX7) (T := TX7) (N := 42) hx hb hts hi7 hown hK hP hM.1 rfl rfl 2 (by decide) (hts (.fieldLink RX7 13 "LinClusterModel" "lengths" "[I") (by decide +kernel)) (fun _ h9 => h9) (v := .ref (ad 2)) (congrArg (fun z => some (va_rf z)) (((hM.eq hst.1).2.1 2 (by decide)).1)) dX7_respond_193 ?_
              refine lv_iload_n hx hb dX7_respond_196 rfl (lv_at hl 4 rfl) ?_
              refine ziald hx hb hK hP (hM.2.1 2 (by decide)).2.1 (show G.2.2 (ad 2) = 62 from (hM.2.1 2 (by decide)).2.2) (vp_in_nI (n := i8) (N := 62) (by omega) (by omega)) dX7_respond_197 ?_
              refine lv_topi (fun v105 ev105 => ?_)
              rw [(nI_clamp (n := i8) (by omega))] at ev105
              obtain rfl : v105 = (nI L8) := ev105.trans kn102
              refine lv_iadd hx hb dX7_respond_198 ?_
              refine lv_topi (fun v106 ev106 => ?_)
              obtain rfl : v106 = nI ((16 * n8) + L8) := ev106.trans (nI_add (16 * n8) L8)
              refine lv_aload_n hx hb dX7_respond_199 rfl (lv_at hl 2 rfl) ?_
              refine zget (ci := 7) (C := RX7) (T := TX7) (N := 42) hx hb hts hi7 hown hK hP hM.1 rfl rfl 29 (by decide) (hts (.fieldLink RX7 92 "LinClusterModel" "row" "[I") (by decide +kernel)) (fun _ h9 => h9) (v := .ref (ad 29)) (congrArg (fun z => some (va_rf z)) (((hM.eq hst.1).2.1 29 (by decide)).1)) dX7_respond_200 ?_
              refine lv_bipush (v := 16) hx hb dX7_respond_203 (by decide) ?_
              refine lv_iload_n hx hb dX7_respond_205 rfl (lv_at hl 3 rfl) ?_
              refine lv_imul hx hb dX7_respond_206 ?_
              refine lv_topi (fun v107 ev107 => ?_)
              obtain rfl : v107 = nI (16 * n8) := ev107.trans (pk_mul 16 n8)
              refine lv_aload_n hx hb dX7_respond_207 rfl (lv_at hl 2 rfl) ?_
              refine zget (ci := 7) (C := RX7) (T := TX7) (N := 42) hx hb hts hi7 hown hK hP hM.1 rfl rfl 2 (by decide) (hts (.fieldLink RX7 13 "LinClusterModel" "lengths" "[I") (by decide +kernel)) (fun _ h9 => h9) (v := .ref (ad 2)) (congrArg (fun z => some (va_rf z)) (((hM.eq hst.1).2.1 2 (by decide)).1)) dX7_respond_208 ?_
              refine lv_iload_n hx hb dX7_respond_211 rfl (lv_at hl 4 rfl) ?_
              refine ziald hx hb hK hP (hM.2.1 2 (by decide)).2.1 (show G.2.2 (ad 2) = 62 from (hM.2.1 2 (by decide)).2.2) (vp_in_nI (n := i8) (N := 62) (by omega) (by omega)) dX7_respond_212 ?_
              refine lv_topi (fun v108 ev108 => ?_)
              rw [(nI_clamp (n := i8) (by omega))] at ev108
              obtain rfl : v108 = (nI L8) := ev108.trans kn102
              refine lv_aload_n hx hb dX7_respond_213 rfl (lv_at hl 2 rfl) ?_
              refine lv_iload_n hx hb dX7_respond_214 rfl (lv_at hl 4 rfl) ?_
              refine vp_callSi (va_Run.run (va_runV (As := [.int (nI i8)]) (rest := [.int (nI L8), .int (nI (16 * n8)), .ref (ad 29), .int (nI ((16 * n8) + L8)), .ref (ad 29)]) ⟨hx, hb, hml, hown, hts⟩ (c_X7_isEnhanced l dC dI cy G (zpi S9 (ad 29) ((16 * n8) + b8) v99) H.size mo ad i8 (hM.eq hst.1) (by omega)) (cwV 1 hts gX7_respond_X7_isEnhanced rfl rfl rfl (by decide +kernel) ⟨Nat.le_of_ble_eq_true rfl, Nat.le_of_ble_eq_true rfl⟩) (zpreV hK hP hD hN (zrecv7 hK hP hM.1)) rfl rfl hl.1 rfl (lv_room (Nat.le_of_ble_eq_true rfl)) dX7_respond_215 ⟨Nat.le_of_ble_eq_true rfl, Nat.le_of_ble_eq_true rfl⟩)) (fun r109 hr109 => ?_)
              refine lv_if_eq (tgt := 228) hx hb dX7_respond_218 (by decide) (fun c110 => ?_) (fun c110 => ?_)
              · skip
                refine lv_iconst (v := 0) hx hb dX7_respond_228 (by decide) ?_
                refine vp_callSi (va_Run.run (va_runS (As := [.ref (ad 29), .int (nI (16 * n8)), .int (nI L8), .int 0]) (rest := [.int (nI ((16 * n8) + L8)), .ref (ad 29)]) ⟨hx, hb, hml, hown, hts⟩ (c_X7_checksum l dC dI cy G (zpi S9 (ad 29) ((16 * n8) + b8) v99) H.size (ad 29) (16 * n8) L8 128 0 (hM.2.1 29 (by decide)).2.1 (show G.2.2 (ad 29) = 128 from (hM.2.1 29 (by decide)).2.2) (by omega) (by omega)) (va_cwS 4 hts gX7_respond_X7_checksum rfl rfl rfl (by decide +kernel) ⟨Nat.le_of_ble_eq_true rfl, Nat.le_of_ble_eq_true rfl⟩) (zpreS hK hP hD hN) rfl rfl hl.1 rfl (lv_room (Nat.le_of_ble_eq_true rfl)) dX7_respond_229 ⟨Nat.le_of_ble_eq_true rfl, Nat.le_of_ble_eq_true rfl⟩)) (fun r111 hr111 => ?_)
                refine ziast (x := r111) hx hb hK hP hD hS (hM.2.1 29 (by decide)).2.1 (show G.2.2 (ad 29) = 128 from (hM.2.1 29 (by decide)).2.2) (vp_in_nI (n := ((16 * n8) + L8)) (N := 128) (by omega) (by omega)) dX7_respond_232 (fun H locs hP hD hS => ?_)
                rw [(nI_clamp (n := ((16 * n8) + L8)) (by omega))] at hP hD
                have hst := zC.pa hM hst (k := 29) (by decide) (by decide) ((16 * n8) + L8) r111
                have kn112 := zpi_o hM (zpi S9 (ad 29) ((16 * n8) + b8) v99) (i := 16) (k := 29) (by decide) (by decide) (by decide) ((16 * n8) + L8) r111 kn100
                have kn113 := zpi_o hM (zpi S9 (ad 29) ((16 * n8) + b8) v99) (i := 30) (k := 29) (by decide) (by decide) (by decide) ((16 * n8) + L8) r111 kn101
                have kn114 := zpi_o hM (zpi S9 (ad 29) ((16 * n8) + b8) v99) (i := 2) (k := 29) (by decide) (by decide) (by decide) ((16 * n8) + L8) r111 kn102
                have hI := hI.free hM (k := 29) (by decide) (by decide) ((16 * n8) + L8) r111
                have kn115 := zpi_s (zpi S9 (ad 29) ((16 * n8) + b8) v99) (ad 29) ((16 * n8) + L8) r111
                refine lv_goto (tgt := 257) hx hb dX7_respond_233 (by decide) ?_
                have hI := hI.close (fun i L _ _ _ _ => ⟨fun _ => ⟨0, kn113.trans nI_0.symm, by omega⟩, fun z9 => absurd (kn112.symm.trans z9) (by decide)⟩)
                exact W.vret hx hb hr (fun t ht hW => ⟨⟨(zpi (zpi S9 (ad 29) ((16 * n8) + b8) v99) (ad 29) ((16 * n8) + L8) r111), rfl, ⟨hst, hI⟩, by rw [ht]; exact hP, va_K.moved hW.alike hK, hD⟩, hS.F ht⟩) hS.2.2 dX7_respond_257
              · skip
                refine lv_iload_n hx hb dX7_respond_221 rfl (lv_at hl 4 rfl) ?_
                refine vp_callSi (va_Run.run (va_runS (As := [.int (nI i8)]) (rest := [.int (nI L8), .int (nI (16 * n8)), .ref (ad 29), .int (nI ((16 * n8) + L8)), .ref (ad 29)]) ⟨hx, hb, hml, hown, hts⟩ (c_X7_pidOf l (nI i8)) (va_cwS 1 hts gX7_respond_X7_pidOf rfl rfl rfl (by decide +kernel) ⟨Nat.le_of_ble_eq_true rfl, Nat.le_of_ble_eq_true rfl⟩) zpreS0 rfl rfl hl.1 rfl (lv_room (Nat.le_of_ble_eq_true rfl)) dX7_respond_222 ⟨Nat.le_of_ble_eq_true rfl, Nat.le_of_ble_eq_true rfl⟩)) (fun r116 hr116 => ?_)
                refine lv_goto (tgt := 229) hx hb dX7_respond_225 (by decide) ?_
                refine vp_callSi (va_Run.run (va_runS (As := [.ref (ad 29), .int (nI (16 * n8)), .int (nI L8), .int r116]) (rest := [.int (nI ((16 * n8) + L8)), .ref (ad 29)]) ⟨hx, hb, hml, hown, hts⟩ (c_X7_checksum l dC dI cy G (zpi S9 (ad 29) ((16 * n8) + b8) v99) H.size (ad 29) (16 * n8) L8 128 r116 (hM.2.1 29 (by decide)).2.1 (show G.2.2 (ad 29) = 128 from (hM.2.1 29 (by decide)).2.2) (by omega) (by omega)) (va_cwS 4 hts gX7_respond_X7_checksum rfl rfl rfl (by decide +kernel) ⟨Nat.le_of_ble_eq_true rfl, Nat.le_of_ble_eq_true rfl⟩) (zpreS hK hP hD hN) rfl rfl hl.1 rfl (lv_room (Nat.le_of_ble_eq_true rfl)) dX7_respond_229 ⟨Nat.le_of_ble_eq_true rfl, Nat.le_of_ble_eq_true rfl⟩)) (fun r117 hr117 => ?_)
                refine ziast (x := r117) hx hb hK hP hD hS (hM.2.1 29 (by decide)).2.1 (show G.2.2 (ad 29) = 128 from (hM.2.1 29 (by decide)).2.2) (vp_in_nI (n := ((16 * n8) + L8)) (N := 128) (by omega) (by omega)) dX7_respond_232 (fun H locs hP hD hS => ?_)
                rw [(nI_clamp (n := ((16 * n8) + L8)) (by omega))] at hP hD
                have hst := zC.pa hM hst (k := 29) (by decide) (by decide) ((16 * n8) + L8) r117
                have kn118 := zpi_o hM (zpi S9 (ad 29) ((16 * n8) + b8) v99) (i := 16) (k := 29) (by decide) (by decide) (by decide) ((16 * n8) + L8) r117 kn100
                have kn119 := zpi_o hM (zpi S9 (ad 29) ((16 * n8) + b8) v99) (i := 30) (k := 29) (by decide) (by decide) (by decide) ((16 * n8) + L8) r117 kn101
                have kn120 := zpi_o hM (zpi S9 (ad 29) ((16 * n8) + b8) v99) (i := 2) (k := 29) (by decide) (by decide) (by decide) ((16 * n8) + L8) r117 kn102
                have hI := hI.free hM (k := 29) (by decide) (by decide) ((16 * n8) + L8) r117
                have kn121 := zpi_s (zpi S9 (ad 29) ((16 * n8) + b8) v99) (ad 29) ((16 * n8) + L8) r117
                refine lv_goto (tgt := 257) hx hb dX7_respond_233 (by decide) ?_
                have hI := hI.close (fun i L _ _ _ _ => ⟨fun _ => ⟨0, kn119.trans nI_0.symm, by omega⟩, fun z9 => absurd (kn118.symm.trans z9) (by decide)⟩)
                exact W.vret hx hb hr (fun t ht hW => ⟨⟨(zpi (zpi S9 (ad 29) ((16 * n8) + b8) v99) (ad 29) ((16 * n8) + L8) r117), rfl, ⟨hst, hI⟩, by rw [ht]; exact hP, va_K.moved hW.alike hK, hD⟩, hS.F ht⟩) hS.2.2 dX7_respond_257
        · exact absurd (nI_le (a := L8) (b := L8) (Nat.le_refl _) (by omega)) c41
      · intro n9 k9 x9 S9 H locs ls hk9 ih hJ9 hP hD hS hl
        obtain ⟨hst, hI, k16, k30, k02⟩ := hJ9
        have hl : lv_has ls 5 [(0, .ref mo), (1, .int (nI n8)), (2, .int (nI i8)), (3, .int (nI k9))] := hl
        refine lv_iload_n hx hb dX7_respond_75 rfl (lv_at hl 3 rfl) ?_
        refine lv_aload_n hx hb dX7_respond_76 rfl (lv_at hl 0 rfl) ?_
        refine zget (ci := 7) (C := RX7) (T := TX7) (N := 42) hx hb hts hi7 hown hK hP hM.1 rfl rfl 2 (by decide) (hts (.fieldLink RX7 13 "LinClusterModel" "lengths" "[I") (by decide +kernel)) (fun _ h9 => h9) (v := .ref (ad 2)) (congrArg (fun z => some (va_rf z)) (((hM.eq hst.1).2.1 2 (by decide)).1)) dX7_respond_77 ?_
        refine lv_iload_n hx hb dX7_respond_80 rfl (lv_at hl 2 rfl) ?_
        refine ziald hx hb hK hP (hM.2.1 2 (by decide)).2.1 (show G.2.2 (ad 2) = 62 from (hM.2.1 2 (by decide)).2.2) (vp_in_nI (n := i8) (N := 62) (by omega) (by omega)) dX7_respond_81 ?_
        refine lv_topi (fun v122 ev122 => ?_)
        rw [(nI_clamp (n := i8) (by omega))] at ev122
        obtain rfl : v122 = (nI L8) := ev122.trans k02
        refine lv_icmp_ge (tgt := 113) hx hb dX7_respond_82 (by decide) (fun c123 => ?_) (fun c123 => ?_)
        · exact absurd c123 (nI_ge (a := k9) (b := L8) (by omega) (by omega))
        · skip
          refine lv_aload_n hx hb dX7_respond_85 rfl (lv_at hl 0 rfl) ?_
          refine zget (ci := 7) (C := RX7) (T := TX7) (N := 42) hx hb hts hi7 hown hK hP hM.1 rfl rfl 29 (by decide) (hts (.fieldLink RX7 92 "LinClusterModel" "row" "[I") (by decide +kernel)) (fun _ h9 => h9) (v := .ref (ad 29)) (congrArg (fun z => some (va_rf z)) (((hM.eq hst.1).2.1 29 (by decide)).1)) dX7_respond_86 ?_
          refine lv_bipush (v := 16) hx hb dX7_respond_89 (by decide) ?_
          refine lv_iload_n hx hb dX7_respond_91 rfl (lv_at hl 1 rfl) ?_
          refine lv_imul hx hb dX7_respond_92 ?_
          refine lv_topi (fun v124 ev124 => ?_)
          obtain rfl : v124 = nI (16 * n8) := ev124.trans (pk_mul 16 n8)
          refine lv_iload_n hx hb dX7_respond_93 rfl (lv_at hl 3 rfl) ?_
          refine lv_iadd hx hb dX7_respond_94 ?_
          refine lv_topi (fun v125 ev125 => ?_)
          obtain rfl : v125 = nI ((16 * n8) + k9) := ev125.trans (nI_add (16 * n8) k9)
          refine lv_aload_n hx hb dX7_respond_95 rfl (lv_at hl 0 rfl) ?_
          refine zget (ci := 7) (C := RX7) (T := TX7) (N := 42) hx hb hts hi7 hown hK hP hM.1 rfl rfl 5 (by decide) (hts (.fieldLink RX7 23 "LinClusterModel" "bytes" "[I") (by decide +kernel)) (fun _ h9 => h9) (v := .ref (ad 5)) (congrArg (fun z => some (va_rf z)) (((hM.eq hst.1).2.1 5 (by decide)).1)) dX7_respond_96 ?_
          refine lv_bipush (v := 8) hx hb dX7_respond_99 (by decide) ?_
          refine lv_iload_n hx hb dX7_respond_101 rfl (lv_at hl 2 rfl) ?_
          refine lv_imul hx hb dX7_respond_102 ?_
          refine lv_topi (fun v126 ev126 => ?_)
          obtain rfl : v126 = nI (8 * i8) := ev126.trans (pk_mul 8 i8)
          refine lv_iload_n hx hb dX7_respond_103 rfl (lv_at hl 3 rfl) ?_
          refine lv_iadd hx hb dX7_respond_104 ?_
          refine lv_topi (fun v127 ev127 => ?_)
          obtain rfl : v127 = nI ((8 * i8) + k9) := ev127.trans (nI_add (8 * i8) k9)
          refine ziald hx hb hK hP (hM.2.1 5 (by decide)).2.1 (show G.2.2 (ad 5) = 496 from (hM.2.1 5 (by decide)).2.2) (vp_in_nI (n := ((8 * i8) + k9)) (N := 496) (by omega) (by omega)) dX7_respond_105 ?_
          refine lv_topi (fun v128 ev128 => ?_)
          rw [(nI_clamp (n := ((8 * i8) + k9)) (by omega))] at ev128
          refine ziast (x := v128) hx hb hK hP hD hS (hM.2.1 29 (by decide)).2.1 (show G.2.2 (ad 29) = 128 from (hM.2.1 29 (by decide)).2.2) (vp_in_nI (n := ((16 * n8) + k9)) (N := 128) (by omega) (by omega)) dX7_respond_106 (fun H locs hP hD hS => ?_)
          rw [(nI_clamp (n := ((16 * n8) + k9)) (by omega))] at hP hD
          have hst := zC.pa hM hst (k := 29) (by decide) (by decide) ((16 * n8) + k9) v128
          have kn129 := zpi_o hM S9 (i := 16) (k := 29) (by decide) (by decide) (by decide) ((16 * n8) + k9) v128 k16
          have kn130 := zpi_o hM S9 (i := 30) (k := 29) (by decide) (by decide) (by decide) ((16 * n8) + k9) v128 k30
          have kn131 := zpi_o hM S9 (i := 2) (k := 29) (by decide) (by decide) (by decide) ((16 * n8) + k9) v128 k02
          have hI := hI.free hM (k := 29) (by decide) (by decide) ((16 * n8) + k9) v128
          have kn132 := zpi_s S9 (ad 29) ((16 * n8) + k9) v128
          obtain ⟨v133, ev133⟩ : ∃ y : Int32, y = (nI k9) + 1 := ⟨_, rfl⟩
          refine lv_iinc (v := v133) (lv' := [(3, .int v133), (0, .ref mo), (1, .int (nI n8)), (2, .int (nI i8))]) hx hb dX7_respond_107 hl (k := 3) rfl (by rw [ev133]; rfl) (by decide) rfl (fun ls hl => ?_)
          refine lv_goto (tgt := 75) hx hb dX7_respond_110 (by decide) ?_
          have e9 : v133 = nI (k9 + 1) := by rw [ev133]; exact nI_1 k9
          rw [e9] at hl
          exact ih () (zpi S9 (ad 29) ((16 * n8) + k9) v128) H locs ls ⟨hst, hI, kn129, kn130, kn131⟩ hP hD hS (lv_sub hl [1, 2, 3, 0] rfl)
  · skip
    exact W.vret hx hb hr (fun t ht hW => ⟨⟨(zpi S (ad 16) n8 1), rfl, ⟨hst, hI⟩, by rw [ht]; exact hP, va_K.moved hW.alike hK, hD⟩, hS.F ht⟩) hS.2.2 dX7_respond_15
set_option maxHeartbeats 4000000 in
set_option maxRecDepth 100000 in
theorem c_X7_header (l : Launch) (dC : Nat → ClassId) (dI : Nat → Nat → Nat) (cy : Nat → ClassId) (G : zG) (S : zS) (sz : Nat) (mo : Nat) (ad : Nat → Nat) (n8 : Nat) (v : Int32) (hM : zM G S mo ad) (hI : zI mo ad S) (hn8 : n8 < 8) (hat : S.1 (ad 16) n8 = 3) : Met l yX7_header wsX7_header ({ frames := 3, cells := 0, slots := 0, locals := 67 }) (zP dC dI cy [.ref mo, .int (nI n8), .int v] G S sz) (va_Qv (fun S' => (zC mo ad [7, 8, 16, 17, 18, 19, 20, 21, 22, 23, 24, 25, 26, 27, 28, 29, 30, 31, 32] [34] S S') ∧ zI mo ad S') (zB dC dI cy (zA cy G S sz) G) (zA cy G S sz)) 0 0 (zA cy G S sz) := by
  refine Met.ofW (cc := cX7_header) (maxL := 5) (ret := none) (by decide) rfl ?_
  intro p e s m args below meth c s₁ B hml hv
  obtain ⟨rfl, hsz, hP, hK, hD0, hN⟩ := hv
  have hx := B.exec
  have hb := B.bytes
  have hr := B.returns
  have hts := atoms_spec (ws := wsX7_header) B.pre
  have hown : s.vm.findClass RX7 = some m.cls := findClass_of_methodNamed B.named
  have hlocks := B.notSynchronized
  subst hsz
  have hD : va_D (zA cy G S s.heap.size) (zW cy G S) := hD0.self
  generalize hAe : zA cy G S s.heap.size = A at hD ⊢
  have hA : ∀ q : Nat, s.heap.size ≤ q → A q := fun q h => by rw [← hAe]; exact Or.inr h
  have hS : va_S A s.heap s.heap [] := va_S.rf
  have hst := zC.refl mo ad [7, 8, 16, 17, 18, 19, 20, 21, 22, 23, 24, 25, 26, 27, 28, 29, 30, 31, 32] [34] S
  have hl := lv_entry ([.ref mo, .int (nI n8), .int v]) (n := 5) (Nat.le_of_ble_eq_true rfl)
  rw [lg_entry_eq]
  generalize (lg_sl ([.ref mo, .int (nI n8), .int v]) ++ List.replicate (5 - (lg_sl ([.ref mo, .int (nI n8), .int v])).length) Slot.unset).toArray = ls at hl ⊢
  have hl : lv_has ls 5 [(0, .ref mo), (1, .int (nI n8)), (2, .int v)] := hl
  have hi7 : ∀ w ∈ wsX70, w ∈ wsX7_header := by decide +kernel
  refine lv_aload_n hx hb dX7_header_0 rfl (lv_at hl 0 rfl) ?_
  refine lv_iload_n hx hb dX7_header_1 rfl (lv_at hl 1 rfl) ?_
  refine lv_iload_n hx hb dX7_header_2 rfl (lv_at hl 2 rfl) ?_
  refine zcalli (va_runV (As := [.int (nI n8), .int v]) (rest := []) ⟨hx, hb, hml, hown, hts⟩ (c_X7_collects l dC dI cy G S s.heap.size mo ad n8 v (hM.eq hst.1) (by omega)) (cwV 2 hts gX7_header_X7_collects rfl rfl rfl (by decide +kernel) ⟨Nat.le_of_ble_eq_true rfl, Nat.le_of_ble_eq_true rfl⟩) (zpreV hK hP hD hN (zrecv7 hK hP hM.1)) rfl rfl hl.1 rfl (lv_room (Nat.le_of_ble_eq_true rfl)) dX7_header_3 ⟨Nat.le_of_ble_eq_true rfl, Nat.le_of_ble_eq_true rfl⟩) hS hD hA (fun r1 S2 H locs hr1 hP hD hS => ?_)
  have hst := hst.trans (hr1.mono (by decide) (by decide))
  have hI := hI.c hr1 (by decide) (by decide)
  have kn3 := (congrFun (hr1.2.1 16 (by decide) (by decide)) n8).trans hat
  refine lv_if_ne (tgt := 10) hx hb dX7_header_6 (by decide) (fun c4 => ?_) (fun c4 => ?_)
  · skip
    refine lv_aload_n hx hb dX7_header_10 rfl (lv_at hl 0 rfl) ?_
    refine zget (ci := 7) (C := RX7) (T := TX7) (N := 42) hx hb hts hi7 hown hK hP hM.1 rfl rfl 26 (by decide) (hts (.fieldLink RX7 83 "LinClusterModel" "values" "[I") (by decide +kernel)) (fun _ h9 => h9) (v := .ref (ad 26)) (congrArg (fun z => some (va_rf z)) (((hM.eq hst.1).2.1 26 (by decide)).1)) dX7_header_11 ?_
    refine lv_iload_n hx hb dX7_header_14 rfl (lv_at hl 1 rfl) ?_
    refine ziald hx hb hK hP (hM.2.1 26 (by decide)).2.1 (show G.2.2 (ad 26) = 8 from (hM.2.1 26 (by decide)).2.2) (vp_in_nI (n := n8) (N := 8) (by omega) (by omega)) dX7_header_15 ?_
    refine lv_topi (fun v5 ev5 => ?_)
    rw [(nI_clamp (n := n8) (by omega))] at ev5
    refine lv_sipush (v := 255) hx hb dX7_header_16 (by decide) ?_
    refine lv_iand hx hb dX7_header_19 ?_
    refine lv_topi (fun v6 ev6 => ?_)
    refine lv_istore_n (lv' := [(3, .int v6), (0, .ref mo), (1, .int (nI n8)), (2, .int v)]) hx hb dX7_header_20 rfl hl (by decide) rfl (fun ls hl => ?_)
    refine lv_iload_n hx hb dX7_header_21 rfl (lv_at hl 3 rfl) ?_
    refine lv_iconst (v := 1) hx hb dX7_header_22 (by decide) ?_
    refine lv_icmp_ne (tgt := 68) hx hb dX7_header_23 (by decide) (fun c7 => ?_) (fun c7 => ?_)
    · skip
      refine lv_iconst (v := 0) hx hb dX7_header_68 (by decide) ?_
      refine lv_istore (lv' := [(4, .int 0), (3, .int v6), (0, .ref mo), (1, .int (nI n8)), (2, .int v)]) hx hb dX7_header_69 hl (by decide) rfl (fun ls hl => ?_)
      refine lv_iload hx hb dX7_header_71 (lv_at hl 0 rfl) ?_
      refine lv_if_ne (tgt := 94) hx hb dX7_header_73 (by decide) (fun c8 => ?_) (fun c8 => ?_)
      · exact absurd c8 (by decide)
      · skip
        refine lv_aload_n hx hb dX7_header_76 rfl (lv_at hl 2 rfl) ?_
        refine zget (ci := 7) (C := RX7) (T := TX7) (N := 42) hx hb hts hi7 hown hK hP hM.1 rfl rfl 18 (by decide) (hts (.fieldLink RX7 59 "LinClusterModel" "lost" "[I") (by decide +kernel)) (fun _ h9 => h9) (v := .ref (ad 18)) (congrArg (fun z => some (va_rf z)) (((hM.eq hst.1).2.1 18 (by decide)).1)) dX7_header_77 ?_
        refine lv_iload_n hx hb dX7_header_80 rfl (lv_at hl 3 rfl) ?_
        refine lv_dup2_11 hx hb dX7_header_81 rfl rfl ?_
        refine ziald hx hb hK hP (hM.2.1 18 (by decide)).2.1 (show G.2.2 (ad 18) = 8 from (hM.2.1 18 (by decide)).2.2) (vp_in_nI (n := n8) (N := 8) (by omega) (by omega)) dX7_header_82 ?_
        refine lv_topi (fun v9 ev9 => ?_)
        rw [(nI_clamp (n := n8) (by omega))] at ev9
        refine lv_iconst (v := 1) hx hb dX7_header_83 (by decide) ?_
        refine lv_iadd hx hb dX7_header_84 ?_
        refine lv_topi (fun v10 ev10 => ?_)
        refine ziast (x := v10) hx hb hK hP hD hS (hM.2.1 18 (by decide)).2.1 (show G.2.2 (ad 18) = 8 from (hM.2.1 18 (by decide)).2.2) (vp_in_nI (n := n8) (N := 8) (by omega) (by omega)) dX7_header_85 (fun H locs hP hD hS => ?_)
        rw [(nI_clamp (n := n8) (by omega))] at hP hD
        have hst := zC.pa hM hst (k := 18) (by decide) (by decide) n8 v10
        have kn11 := zpi_o hM S2 (i := 16) (k := 18) (by decide) (by decide) (by decide) n8 v10 kn3
        have hI := hI.free hM (k := 18) (by decide) (by decide) n8 v10
        have kn12 := zpi_s S2 (ad 18) n8 v10
        refine lv_aload_n hx hb dX7_header_86 rfl (lv_at hl 2 rfl) ?_
        refine zget (ci := 7) (C := RX7) (T := TX7) (N := 42) hx hb hts hi7 hown hK hP hM.1 rfl rfl 16 (by decide) (hts (.fieldLink RX7 53 "LinClusterModel" "at" "[I") (by decide +kernel)) (fun _ h9 => h9) (v := .ref (ad 16)) (congrArg (fun z => some (va_rf z)) (((hM.eq hst.1).2.1 16 (by decide)).1)) dX7_header_87 ?_
        refine lv_iload_n hx hb dX7_header_90 rfl (lv_at hl 3 rfl) ?_
        refine lv_iconst (v := 1) hx hb dX7_header_91 (by decide) ?_
        refine ziast (x := 1) hx hb hK hP hD hS (hM.2.1 16 (by decide)).2.1 (show G.2.2 (ad 16) = 8 from (hM.2.1 16 (by decide)).2.2) (vp_in_nI (n := n8) (N := 8) (by omega) (by omega)) dX7_header_92 (fun H locs hP hD hS => ?_)
        rw [(nI_clamp (n := n8) (by omega))] at hP hD
        have hst := zC.pa hM hst (k := 16) (by decide) (by decide) n8 1
        have kn13 := zpi_o hM (zpi S2 (ad 18) n8 v10) (i := 18) (k := 16) (by decide) (by decide) (by decide) n8 1 kn12
        have hI := hI.at hM hn8 (v := 1) (by decide) (by decide)
        have kn14 := zpi_s (zpi S2 (ad 18) n8 v10) (ad 16) n8 1
        exact W.vret hx hb hr (fun t ht hW => ⟨⟨(zpi (zpi S2 (ad 18) n8 v10) (ad 16) n8 1), rfl, ⟨hst, hI⟩, by rw [ht]; exact hP, va_K.moved hW.alike hK, hD⟩, hS.F ht⟩) hS.2.2 dX7_header_93
    · skip
      refine lv_aload_n hx hb dX7_header_26 rfl (lv_at hl 1 rfl) ?_
      refine zget (ci := 7) (C := RX7) (T := TX7) (N := 42) hx hb hts hi7 hown hK hP hM.1 rfl rfl 27 (by decide) (hts (.fieldLink RX7 86 "LinClusterModel" "characters" "[I") (by decide +kernel)) (fun _ h9 => h9) (v := .ref (ad 27)) (congrArg (fun z => some (va_rf z)) (((hM.eq hst.1).2.1 27 (by decide)).1)) dX7_header_27 ?_
      refine lv_iload_n hx hb dX7_header_30 rfl (lv_at hl 2 rfl) ?_
      refine ziald hx hb hK hP (hM.2.1 27 (by decide)).2.1 (show G.2.2 (ad 27) = 8 from (hM.2.1 27 (by decide)).2.2) (vp_in_nI (n := n8) (N := 8) (by omega) (by omega)) dX7_header_31 ?_
      refine lv_topi (fun v15 ev15 => ?_)
      rw [(nI_clamp (n := n8) (by omega))] at ev15
      refine lv_if_ne (tgt := 44) hx hb dX7_header_32 (by decide) (fun c16 => ?_) (fun c16 => ?_)
      · skip
        refine lv_iload_n hx hb dX7_header_44 rfl (lv_at hl 0 rfl) ?_
        refine lv_bipush (v := 63) hx hb dX7_header_45 (by decide) ?_
        refine lv_iand hx hb dX7_header_47 ?_
        refine lv_topi (fun v17 ev17 => ?_)
        refine lv_bipush (v := 62) hx hb dX7_header_48 (by decide) ?_
        refine lv_icmp_ge (tgt := 68) hx hb dX7_header_50 (by decide) (fun c18 => ?_) (fun c18 => ?_)
        · skip
          refine lv_iconst (v := 0) hx hb dX7_header_68 (by decide) ?_
          refine lv_istore (lv' := [(4, .int 0), (3, .int v6), (0, .ref mo), (1, .int (nI n8)), (2, .int v)]) hx hb dX7_header_69 hl (by decide) rfl (fun ls hl => ?_)
          refine lv_iload hx hb dX7_header_71 (lv_at hl 0 rfl) ?_
          refine lv_if_ne (tgt := 94) hx hb dX7_header_73 (by decide) (fun c19 => ?_) (fun c19 => ?_)
          · exact absurd c19 (by decide)
          · skip
            refine lv_aload_n hx hb dX7_header_76 rfl (lv_at hl 2 rfl) ?_
            refine zget (ci := 7) (C := RX7) (T := TX7) (N := 42) hx hb hts hi7 hown hK hP hM.1 rfl rfl 18 (by decide) (hts (.fieldLink RX7 59 "LinClusterModel" "lost" "[I") (by decide +kernel)) (fun _ h9 => h9) (v := .ref (ad 18)) (congrArg (fun z => some (va_rf z)) (((hM.eq hst.1).2.1 18 (by decide)).1)) dX7_header_77 ?_
            refine lv_iload_n hx hb dX7_header_80 rfl (lv_at hl 3 rfl) ?_
            refine lv_dup2_11 hx hb dX7_header_81 rfl rfl ?_
            refine ziald hx hb hK hP (hM.2.1 18 (by decide)).2.1 (show G.2.2 (ad 18) = 8 from (hM.2.1 18 (by decide)).2.2) (vp_in_nI (n := n8) (N := 8) (by omega) (by omega)) dX7_header_82 ?_
            refine lv_topi (fun v20 ev20 => ?_)
            rw [(nI_clamp (n := n8) (by omega))] at ev20
            refine lv_iconst (v := 1) hx hb dX7_header_83 (by decide) ?_
            refine lv_iadd hx hb dX7_header_84 ?_
            refine lv_topi (fun v21 ev21 => ?_)
            refine ziast (x := v21) hx hb hK hP hD hS (hM.2.1 18 (by decide)).2.1 (show G.2.2 (ad 18) = 8 from (hM.2.1 18 (by decide)).2.2) (vp_in_nI (n := n8) (N := 8) (by omega) (by omega)) dX7_header_85 (fun H locs hP hD hS => ?_)
            rw [(nI_clamp (n := n8) (by omega))] at hP hD
            have hst := zC.pa hM hst (k := 18) (by decide) (by decide) n8 v21
            have kn22 := zpi_o hM S2 (i := 16) (k := 18) (by decide) (by decide) (by decide) n8 v21 kn3
            have hI := hI.free hM (k := 18) (by decide) (by decide) n8 v21
            have kn23 := zpi_s S2 (ad 18) n8 v21
            refine lv_aload_n hx hb dX7_header_86 rfl (lv_at hl 2 rfl) ?_
            refine zget (ci := 7) (C := RX7) (T := TX7) (N := 42) hx hb hts hi7 hown hK hP hM.1 rfl rfl 16 (by decide) (hts (.fieldLink RX7 53 "LinClusterModel" "at" "[I") (by decide +kernel)) (fun _ h9 => h9) (v := .ref (ad 16)) (congrArg (fun z => some (va_rf z)) (((hM.eq hst.1).2.1 16 (by decide)).1)) dX7_header_87 ?_
            refine lv_iload_n hx hb dX7_header_90 rfl (lv_at hl 3 rfl) ?_
            refine lv_iconst (v := 1) hx hb dX7_header_91 (by decide) ?_
            refine ziast (x := 1) hx hb hK hP hD hS (hM.2.1 16 (by decide)).2.1 (show G.2.2 (ad 16) = 8 from (hM.2.1 16 (by decide)).2.2) (vp_in_nI (n := n8) (N := 8) (by omega) (by omega)) dX7_header_92 (fun H locs hP hD hS => ?_)
            rw [(nI_clamp (n := n8) (by omega))] at hP hD
            have hst := zC.pa hM hst (k := 16) (by decide) (by decide) n8 1
            have kn24 := zpi_o hM (zpi S2 (ad 18) n8 v21) (i := 18) (k := 16) (by decide) (by decide) (by decide) n8 1 kn23
            have hI := hI.at hM hn8 (v := 1) (by decide) (by decide)
            have kn25 := zpi_s (zpi S2 (ad 18) n8 v21) (ad 16) n8 1
            exact W.vret hx hb hr (fun t ht hW => ⟨⟨(zpi (zpi S2 (ad 18) n8 v21) (ad 16) n8 1), rfl, ⟨hst, hI⟩, by rw [ht]; exact hP, va_K.moved hW.alike hK, hD⟩, hS.F ht⟩) hS.2.2 dX7_header_93
        · skip
          refine lv_iload_n hx hb dX7_header_53 rfl (lv_at hl 0 rfl) ?_
          refine lv_bipush (v := 63) hx hb dX7_header_54 (by decide) ?_
          refine lv_iand hx hb dX7_header_56 ?_
          refine lv_topi (fun v26 ev26 => ?_)
          refine vp_callSi (va_Run.run (va_runS (As := [.int v26]) (rest := []) ⟨hx, hb, hml, hown, hts⟩ (c_X7_pidOf l v26) (va_cwS 1 hts gX7_header_X7_pidOf rfl rfl rfl (by decide +kernel) ⟨Nat.le_of_ble_eq_true rfl, Nat.le_of_ble_eq_true rfl⟩) zpreS0 rfl rfl hl.1 rfl (lv_room (Nat.le_of_ble_eq_true rfl)) dX7_header_57 ⟨Nat.le_of_ble_eq_true rfl, Nat.le_of_ble_eq_true rfl⟩)) (fun r27 hr27 => ?_)
          refine lv_iload_n hx hb dX7_header_60 rfl (lv_at hl 0 rfl) ?_
          refine lv_icmp_ne (tgt := 68) hx hb dX7_header_61 (by decide) (fun c28 => ?_) (fun c28 => ?_)
          · skip
            refine lv_iconst (v := 0) hx hb dX7_header_68 (by decide) ?_
            refine lv_istore (lv' := [(4, .int 0), (3, .int v6), (0, .ref mo), (1, .int (nI n8)), (2, .int v)]) hx hb dX7_header_69 hl (by decide) rfl (fun ls hl => ?_)
            refine lv_iload hx hb dX7_header_71 (lv_at hl 0 rfl) ?_
            refine lv_if_ne (tgt := 94) hx hb dX7_header_73 (by decide) (fun c29 => ?_) (fun c29 => ?_)
            · exact absurd c29 (by decide)
            · skip
              refine lv_aload_n hx hb dX7_header_76 rfl (lv_at hl 2 rfl) ?_
              refine zget (ci := 7) (C := RX7) (T := TX7) (N := 42) hx hb hts hi7 hown hK hP hM.1 rfl rfl 18 (by decide) (hts (.fieldLink RX7 59 "LinClusterModel" "lost" "[I") (by decide +kernel)) (fun _ h9 => h9) (v := .ref (ad 18)) (congrArg (fun z => some (va_rf z)) (((hM.eq hst.1).2.1 18 (by decide)).1)) dX7_header_77 ?_
              refine lv_iload_n hx hb dX7_header_80 rfl (lv_at hl 3 rfl) ?_
              refine lv_dup2_11 hx hb dX7_header_81 rfl rfl ?_
              refine ziald hx hb hK hP (hM.2.1 18 (by decide)).2.1 (show G.2.2 (ad 18) = 8 from (hM.2.1 18 (by decide)).2.2) (vp_in_nI (n := n8) (N := 8) (by omega) (by omega)) dX7_header_82 ?_
              refine lv_topi (fun v30 ev30 => ?_)
              rw [(nI_clamp (n := n8) (by omega))] at ev30
              refine lv_iconst (v := 1) hx hb dX7_header_83 (by decide) ?_
              refine lv_iadd hx hb dX7_header_84 ?_
              refine lv_topi (fun v31 ev31 => ?_)
              refine ziast (x := v31) hx hb hK hP hD hS (hM.2.1 18 (by decide)).2.1 (show G.2.2 (ad 18) = 8 from (hM.2.1 18 (by decide)).2.2) (vp_in_nI (n := n8) (N := 8) (by omega) (by omega)) dX7_header_85 (fun H locs hP hD hS => ?_)
              rw [(nI_clamp (n := n8) (by omega))] at hP hD
              have hst := zC.pa hM hst (k := 18) (by decide) (by decide) n8 v31
              have kn32 := zpi_o hM S2 (i := 16) (k := 18) (by decide) (by decide) (by decide) n8 v31 kn3
              have hI := hI.free hM (k := 18) (by decide) (by decide) n8 v31
              have kn33 := zpi_s S2 (ad 18) n8 v31
              refine lv_aload_n hx hb dX7_header_86 rfl (lv_at hl 2 rfl) ?_
              refine zget (ci := 7) (C := RX7) (T := TX7) (N := 42) hx hb hts hi7 hown hK hP hM.1 rfl rfl 16 (by decide) (hts (.fieldLink RX7 53 "LinClusterModel" "at" "[I") (by decide +kernel)) (fun _ h9 => h9) (v := .ref (ad 16)) (congrArg (fun z => some (va_rf z)) (((hM.eq hst.1).2.1 16 (by decide)).1)) dX7_header_87 ?_
              refine lv_iload_n hx hb dX7_header_90 rfl (lv_at hl 3 rfl) ?_
              refine lv_iconst (v := 1) hx hb dX7_header_91 (by decide) ?_
              refine ziast (x := 1) hx hb hK hP hD hS (hM.2.1 16 (by decide)).2.1 (show G.2.2 (ad 16) = 8 from (hM.2.1 16 (by decide)).2.2) (vp_in_nI (n := n8) (N := 8) (by omega) (by omega)) dX7_header_92 (fun H locs hP hD hS => ?_)
              rw [(nI_clamp (n := n8) (by omega))] at hP hD
              have hst := zC.pa hM hst (k := 16) (by decide) (by decide) n8 1
              have kn34 := zpi_o hM (zpi S2 (ad 18) n8 v31) (i := 18) (k := 16) (by decide) (by decide) (by decide) n8 1 kn33
              have hI := hI.at hM hn8 (v := 1) (by decide) (by decide)
              have kn35 := zpi_s (zpi S2 (ad 18) n8 v31) (ad 16) n8 1
              exact W.vret hx hb hr (fun t ht hW => ⟨⟨(zpi (zpi S2 (ad 18) n8 v31) (ad 16) n8 1), rfl, ⟨hst, hI⟩, by rw [ht]; exact hP, va_K.moved hW.alike hK, hD⟩, hS.F ht⟩) hS.2.2 dX7_header_93
          · skip
            refine lv_iconst (v := 1) hx hb dX7_header_64 (by decide) ?_
            refine lv_goto (tgt := 69) hx hb dX7_header_65 (by decide) ?_
            refine lv_istore (lv' := [(4, .int 1), (3, .int v6), (0, .ref mo), (1, .int (nI n8)), (2, .int v)]) hx hb dX7_header_69 hl (by decide) rfl (fun ls hl => ?_)
            refine lv_iload hx hb dX7_header_71 (lv_at hl 0 rfl) ?_
            refine lv_if_ne (tgt := 94) hx hb dX7_header_73 (by decide) (fun c36 => ?_) (fun c36 => ?_)
            · skip
              refine lv_aload_n hx hb dX7_header_94 rfl (lv_at hl 2 rfl) ?_
              refine zget (ci := 7) (C := RX7) (T := TX7) (N := 42) hx hb hts hi7 hown hK hP hM.1 rfl rfl 27 (by decide) (hts (.fieldLink RX7 86 "LinClusterModel" "characters" "[I") (by decide +kernel)) (fun _ h9 => h9) (v := .ref (ad 27)) (congrArg (fun z => some (va_rf z)) (((hM.eq hst.1).2.1 27 (by decide)).1)) dX7_header_95 ?_
              refine lv_iload_n hx hb dX7_header_98 rfl (lv_at hl 3 rfl) ?_
              refine lv_dup2_11 hx hb dX7_header_99 rfl rfl ?_
              refine ziald hx hb hK hP (hM.2.1 27 (by decide)).2.1 (show G.2.2 (ad 27) = 8 from (hM.2.1 27 (by decide)).2.2) (vp_in_nI (n := n8) (N := 8) (by omega) (by omega)) dX7_header_100 ?_
              refine lv_topi (fun v37 ev37 => ?_)
              rw [(nI_clamp (n := n8) (by omega))] at ev37
              refine lv_iconst (v := 1) hx hb dX7_header_101 (by decide) ?_
              refine lv_iadd hx hb dX7_header_102 ?_
              refine lv_topi (fun v38 ev38 => ?_)
              refine ziast (x := v38) hx hb hK hP hD hS (hM.2.1 27 (by decide)).2.1 (show G.2.2 (ad 27) = 8 from (hM.2.1 27 (by decide)).2.2) (vp_in_nI (n := n8) (N := 8) (by omega) (by omega)) dX7_header_103 (fun H locs hP hD hS => ?_)
              rw [(nI_clamp (n := n8) (by omega))] at hP hD
              have hst := zC.pa hM hst (k := 27) (by decide) (by decide) n8 v38
              have kn39 := zpi_o hM S2 (i := 16) (k := 27) (by decide) (by decide) (by decide) n8 v38 kn3
              have hI := hI.ix hn8
              have hI := hI.ch hM v38
              have kn40 := zpi_s S2 (ad 27) n8 v38
              have hI := hI.idle (by rw [kn39]; decide) (by rw [kn39]; decide)
              refine lv_aload_n hx hb dX7_header_104 rfl (lv_at hl 2 rfl) ?_
              refine zget (ci := 7) (C := RX7) (T := TX7) (N := 42) hx hb hts hi7 hown hK hP hM.1 rfl rfl 27 (by decide) (hts (.fieldLink RX7 86 "LinClusterModel" "characters" "[I") (by decide +kernel)) (fun _ h9 => h9) (v := .ref (ad 27)) (congrArg (fun z => some (va_rf z)) (((hM.eq hst.1).2.1 27 (by decide)).1)) dX7_header_105 ?_
              refine lv_iload_n hx hb dX7_header_108 rfl (lv_at hl 3 rfl) ?_
              refine ziald hx hb hK hP (hM.2.1 27 (by decide)).2.1 (show G.2.2 (ad 27) = 8 from (hM.2.1 27 (by decide)).2.2) (vp_in_nI (n := n8) (N := 8) (by omega) (by omega)) dX7_header_109 ?_
              refine lv_topi (fun v41 ev41 => ?_)
              rw [(nI_clamp (n := n8) (by omega))] at ev41
              refine lv_iconst (v := 2) hx hb dX7_header_110 (by decide) ?_
              refine lv_icmp_ne (tgt := 123) hx hb dX7_header_111 (by decide) (fun c42 => ?_) (fun c42 => ?_)
              · skip
                exact W.vret hx hb hr (fun t ht hW => ⟨⟨(zpi S2 (ad 27) n8 v38), rfl, ⟨hst, hI⟩, by rw [ht]; exact hP, va_K.moved hW.alike hK, hD⟩, hS.F ht⟩) hS.2.2 dX7_header_123
              · skip
                have kn43 := ev41.symm.trans c42
                refine lv_aload_n hx hb dX7_header_114 rfl (lv_at hl 2 rfl) ?_
                refine lv_iload_n hx hb dX7_header_115 rfl (lv_at hl 3 rfl) ?_
                refine lv_iload_n hx hb dX7_header_116 rfl (lv_at hl 1 rfl) ?_
                refine lv_bipush (v := 63) hx hb dX7_header_117 (by decide) ?_
                refine lv_iand hx hb dX7_header_119 ?_
                refine lv_topi (fun v44 ev44 => ?_)
                refine zcallv (va_runV (As := [.int (nI n8), .int v44]) (rest := []) ⟨hx, hb, hml, hown, hts⟩ (c_X7_respond l dC dI cy G (zpi S2 (ad 27) n8 v38) H.size mo ad n8 v44 (hM.eq hst.1) hI (by omega)) (cwV 2 hts gX7_header_X7_respond rfl rfl rfl (by decide +kernel) ⟨Nat.le_of_ble_eq_true rfl, Nat.le_of_ble_eq_true rfl⟩) (zpreV hK hP hD hN (zrecv7 hK hP hM.1)) rfl rfl hl.1 rfl (lv_room (Nat.le_of_ble_eq_true rfl)) dX7_header_120 ⟨Nat.le_of_ble_eq_true rfl, Nat.le_of_ble_eq_true rfl⟩) hS hD hA (fun S46 H locs hr45 hP hD hS => ?_)
                have hst := hst.trans (hr45.1.mono (by decide) (by decide))
                have hI := hr45.2
                exact W.vret hx hb hr (fun t ht hW => ⟨⟨S46, rfl, ⟨hst, hI⟩, by rw [ht]; exact hP, va_K.moved hW.alike hK, hD⟩, hS.F ht⟩) hS.2.2 dX7_header_123
            · exact absurd c36 (by decide)
      · skip
        have kn47 := ev15.symm.trans c16
        refine lv_iload_n hx hb dX7_header_35 rfl (lv_at hl 0 rfl) ?_
        refine lv_bipush (v := 85) hx hb dX7_header_36 (by decide) ?_
        refine lv_icmp_ne (tgt := 68) hx hb dX7_header_38 (by decide) (fun c48 => ?_) (fun c48 => ?_)
        · skip
          refine lv_iconst (v := 0) hx hb dX7_header_68 (by decide) ?_
          refine lv_istore (lv' := [(4, .int 0), (3, .int v6), (0, .ref mo), (1, .int (nI n8)), (2, .int v)]) hx hb dX7_header_69 hl (by decide) rfl (fun ls hl => ?_)
          refine lv_iload hx hb dX7_header_71 (lv_at hl 0 rfl) ?_
          refine lv_if_ne (tgt := 94) hx hb dX7_header_73 (by decide) (fun c49 => ?_) (fun c49 => ?_)
          · exact absurd c49 (by decide)
          · skip
            refine lv_aload_n hx hb dX7_header_76 rfl (lv_at hl 2 rfl) ?_
            refine zget (ci := 7) (C := RX7) (T := TX7) (N := 42) hx hb hts hi7 hown hK hP hM.1 rfl rfl 18 (by decide) (hts (.fieldLink RX7 59 "LinClusterModel" "lost" "[I") (by decide +kernel)) (fun _ h9 => h9) (v := .ref (ad 18)) (congrArg (fun z => some (va_rf z)) (((hM.eq hst.1).2.1 18 (by decide)).1)) dX7_header_77 ?_
            refine lv_iload_n hx hb dX7_header_80 rfl (lv_at hl 3 rfl) ?_
            refine lv_dup2_11 hx hb dX7_header_81 rfl rfl ?_
            refine ziald hx hb hK hP (hM.2.1 18 (by decide)).2.1 (show G.2.2 (ad 18) = 8 from (hM.2.1 18 (by decide)).2.2) (vp_in_nI (n := n8) (N := 8) (by omega) (by omega)) dX7_header_82 ?_
            refine lv_topi (fun v50 ev50 => ?_)
            rw [(nI_clamp (n := n8) (by omega))] at ev50
            refine lv_iconst (v := 1) hx hb dX7_header_83 (by decide) ?_
            refine lv_iadd hx hb dX7_header_84 ?_
            refine lv_topi (fun v51 ev51 => ?_)
            refine ziast (x := v51) hx hb hK hP hD hS (hM.2.1 18 (by decide)).2.1 (show G.2.2 (ad 18) = 8 from (hM.2.1 18 (by decide)).2.2) (vp_in_nI (n := n8) (N := 8) (by omega) (by omega)) dX7_header_85 (fun H locs hP hD hS => ?_)
            rw [(nI_clamp (n := n8) (by omega))] at hP hD
            have hst := zC.pa hM hst (k := 18) (by decide) (by decide) n8 v51
            have kn52 := zpi_o hM S2 (i := 16) (k := 18) (by decide) (by decide) (by decide) n8 v51 kn3
            have kn53 := zpi_o hM S2 (i := 27) (k := 18) (by decide) (by decide) (by decide) n8 v51 kn47
            have hI := hI.free hM (k := 18) (by decide) (by decide) n8 v51
            have kn54 := zpi_s S2 (ad 18) n8 v51
            refine lv_aload_n hx hb dX7_header_86 rfl (lv_at hl 2 rfl) ?_
            refine zget (ci := 7) (C := RX7) (T := TX7) (N := 42) hx hb hts hi7 hown hK hP hM.1 rfl rfl 16 (by decide) (hts (.fieldLink RX7 53 "LinClusterModel" "at" "[I") (by decide +kernel)) (fun _ h9 => h9) (v := .ref (ad 16)) (congrArg (fun z => some (va_rf z)) (((hM.eq hst.1).2.1 16 (by decide)).1)) dX7_header_87 ?_
            refine lv_iload_n hx hb dX7_header_90 rfl (lv_at hl 3 rfl) ?_
            refine lv_iconst (v := 1) hx hb dX7_header_91 (by decide) ?_
            refine ziast (x := 1) hx hb hK hP hD hS (hM.2.1 16 (by decide)).2.1 (show G.2.2 (ad 16) = 8 from (hM.2.1 16 (by decide)).2.2) (vp_in_nI (n := n8) (N := 8) (by omega) (by omega)) dX7_header_92 (fun H locs hP hD hS => ?_)
            rw [(nI_clamp (n := n8) (by omega))] at hP hD
            have hst := zC.pa hM hst (k := 16) (by decide) (by decide) n8 1
            have kn55 := zpi_o hM (zpi S2 (ad 18) n8 v51) (i := 27) (k := 16) (by decide) (by decide) (by decide) n8 1 kn53
            have kn56 := zpi_o hM (zpi S2 (ad 18) n8 v51) (i := 18) (k := 16) (by decide) (by decide) (by decide) n8 1 kn54
            have hI := hI.at hM hn8 (v := 1) (by decide) (by decide)
            have kn57 := zpi_s (zpi S2 (ad 18) n8 v51) (ad 16) n8 1
            exact W.vret hx hb hr (fun t ht hW => ⟨⟨(zpi (zpi S2 (ad 18) n8 v51) (ad 16) n8 1), rfl, ⟨hst, hI⟩, by rw [ht]; exact hP, va_K.moved hW.alike hK, hD⟩, hS.F ht⟩) hS.2.2 dX7_header_93
        · skip
          refine lv_goto (tgt := 64) hx hb dX7_header_41 (by decide) ?_
          refine lv_iconst (v := 1) hx hb dX7_header_64 (by decide) ?_
          refine lv_goto (tgt := 69) hx hb dX7_header_65 (by decide) ?_
          refine lv_istore (lv' := [(4, .int 1), (3, .int v6), (0, .ref mo), (1, .int (nI n8)), (2, .int v)]) hx hb dX7_header_69 hl (by decide) rfl (fun ls hl => ?_)
          refine lv_iload hx hb dX7_header_71 (lv_at hl 0 rfl) ?_
          refine lv_if_ne (tgt := 94) hx hb dX7_header_73 (by decide) (fun c58 => ?_) (fun c58 => ?_)
          · skip
            refine lv_aload_n hx hb dX7_header_94 rfl (lv_at hl 2 rfl) ?_
            refine zget (ci := 7) (C := RX7) (T := TX7) (N := 42) hx hb hts hi7 hown hK hP hM.1 rfl rfl 27 (by decide) (hts (.fieldLink RX7 86 "LinClusterModel" "characters" "[I") (by decide +kernel)) (fun _ h9 => h9) (v := .ref (ad 27)) (congrArg (fun z => some (va_rf z)) (((hM.eq hst.1).2.1 27 (by decide)).1)) dX7_header_95 ?_
            refine lv_iload_n hx hb dX7_header_98 rfl (lv_at hl 3 rfl) ?_
            refine lv_dup2_11 hx hb dX7_header_99 rfl rfl ?_
            refine ziald hx hb hK hP (hM.2.1 27 (by decide)).2.1 (show G.2.2 (ad 27) = 8 from (hM.2.1 27 (by decide)).2.2) (vp_in_nI (n := n8) (N := 8) (by omega) (by omega)) dX7_header_100 ?_
            refine lv_topi (fun v59 ev59 => ?_)
            rw [(nI_clamp (n := n8) (by omega))] at ev59
            obtain rfl : v59 = 0 := ev59.trans kn47
            refine lv_iconst (v := 1) hx hb dX7_header_101 (by decide) ?_
            refine lv_iadd hx hb dX7_header_102 ?_
            refine lv_topi (fun v60 ev60 => ?_)
            refine ziast (x := v60) hx hb hK hP hD hS (hM.2.1 27 (by decide)).2.1 (show G.2.2 (ad 27) = 8 from (hM.2.1 27 (by decide)).2.2) (vp_in_nI (n := n8) (N := 8) (by omega) (by omega)) dX7_header_103 (fun H locs hP hD hS => ?_)
            rw [(nI_clamp (n := n8) (by omega))] at hP hD
            have hst := zC.pa hM hst (k := 27) (by decide) (by decide) n8 v60
            have kn61 := zpi_o hM S2 (i := 16) (k := 27) (by decide) (by decide) (by decide) n8 v60 kn3
            have hI := hI.ix hn8
            have hI := hI.ch hM v60
            have kn62 := zpi_s S2 (ad 27) n8 v60
            have hI := hI.idle (by rw [kn61]; decide) (by rw [kn61]; decide)
            refine lv_aload_n hx hb dX7_header_104 rfl (lv_at hl 2 rfl) ?_
            refine zget (ci := 7) (C := RX7) (T := TX7) (N := 42) hx hb hts hi7 hown hK hP hM.1 rfl rfl 27 (by decide) (hts (.fieldLink RX7 86 "LinClusterModel" "characters" "[I") (by decide +kernel)) (fun _ h9 => h9) (v := .ref (ad 27)) (congrArg (fun z => some (va_rf z)) (((hM.eq hst.1).2.1 27 (by decide)).1)) dX7_header_105 ?_
            refine lv_iload_n hx hb dX7_header_108 rfl (lv_at hl 3 rfl) ?_
            refine ziald hx hb hK hP (hM.2.1 27 (by decide)).2.1 (show G.2.2 (ad 27) = 8 from (hM.2.1 27 (by decide)).2.2) (vp_in_nI (n := n8) (N := 8) (by omega) (by omega)) dX7_header_109 ?_
            refine lv_topi (fun v63 ev63 => ?_)
            rw [(nI_clamp (n := n8) (by omega))] at ev63
            refine lv_iconst (v := 2) hx hb dX7_header_110 (by decide) ?_
            refine lv_icmp_ne (tgt := 123) hx hb dX7_header_111 (by decide) (fun c64 => ?_) (fun c64 => ?_)
            · skip
              exact W.vret hx hb hr (fun t ht hW => ⟨⟨(zpi S2 (ad 27) n8 v60), rfl, ⟨hst, hI⟩, by rw [ht]; exact hP, va_K.moved hW.alike hK, hD⟩, hS.F ht⟩) hS.2.2 dX7_header_123
            · skip
              have kn65 := ev63.symm.trans c64
              refine lv_aload_n hx hb dX7_header_114 rfl (lv_at hl 2 rfl) ?_
              refine lv_iload_n hx hb dX7_header_115 rfl (lv_at hl 3 rfl) ?_
              refine lv_iload_n hx hb dX7_header_116 rfl (lv_at hl 1 rfl) ?_
              refine lv_bipush (v := 63) hx hb dX7_header_117 (by decide) ?_
              refine lv_iand hx hb dX7_header_119 ?_
              refine lv_topi (fun v66 ev66 => ?_)
              refine zcallv (va_runV (As := [.int (nI n8), .int v66]) (rest := []) ⟨hx, hb, hml, hown, hts⟩ (c_X7_respond l dC dI cy G (zpi S2 (ad 27) n8 v60) H.size mo ad n8 v66 (hM.eq hst.1) hI (by omega)) (cwV 2 hts gX7_header_X7_respond rfl rfl rfl (by decide +kernel) ⟨Nat.le_of_ble_eq_true rfl, Nat.le_of_ble_eq_true rfl⟩) (zpreV hK hP hD hN (zrecv7 hK hP hM.1)) rfl rfl hl.1 rfl (lv_room (Nat.le_of_ble_eq_true rfl)) dX7_header_120 ⟨Nat.le_of_ble_eq_true rfl, Nat.le_of_ble_eq_true rfl⟩) hS hD hA (fun S68 H locs hr67 hP hD hS => ?_)
              have hst := hst.trans (hr67.1.mono (by decide) (by decide))
              have hI := hr67.2
              exact W.vret hx hb hr (fun t ht hW => ⟨⟨S68, rfl, ⟨hst, hI⟩, by rw [ht]; exact hP, va_K.moved hW.alike hK, hD⟩, hS.F ht⟩) hS.2.2 dX7_header_123
          · exact absurd c58 (by decide)
  · skip
    exact W.vret hx hb hr (fun t ht hW => ⟨⟨S2, rfl, ⟨hst, hI⟩, by rw [ht]; exact hP, va_K.moved hW.alike hK, hD⟩, hS.F ht⟩) hS.2.2 dX7_header_9
set_option maxHeartbeats 4000000 in
set_option maxRecDepth 100000 in
theorem c_X7_look (l : Launch) (dC : Nat → ClassId) (dI : Nat → Nat → Nat) (cy : Nat → ClassId) (G : zG) (S : zS) (sz : Nat) (mo : Nat) (ad : Nat → Nat) (n8 : Nat) (v : Int32) (hM : zM G S mo ad) (hI : zI mo ad S) (hn8 : n8 < 8) : Met l yX7_look wsX7_look ({ frames := 4, cells := 0, slots := 0, locals := 92 }) (zP dC dI cy [.ref mo, .int (nI n8), .int v] G S sz) (va_Qv (fun S' => (zC mo ad [7, 8, 16, 17, 18, 19, 20, 21, 22, 23, 24, 25, 26, 27, 28, 29, 30, 31, 32] [34, 37] S S') ∧ zI mo ad S') (zB dC dI cy (zA cy G S sz) G) (zA cy G S sz)) 0 0 (zA cy G S sz) := by
  refine Met.ofW (cc := cX7_look) (maxL := 4) (ret := none) (by decide) rfl ?_
  intro p e s m args below meth c s₁ B hml hv
  obtain ⟨rfl, hsz, hP, hK, hD0, hN⟩ := hv
  have hx := B.exec
  have hb := B.bytes
  have hr := B.returns
  have hts := atoms_spec (ws := wsX7_look) B.pre
  have hown : s.vm.findClass RX7 = some m.cls := findClass_of_methodNamed B.named
  have hlocks := B.notSynchronized
  subst hsz
  have hD : va_D (zA cy G S s.heap.size) (zW cy G S) := hD0.self
  generalize hAe : zA cy G S s.heap.size = A at hD ⊢
  have hA : ∀ q : Nat, s.heap.size ≤ q → A q := fun q h => by rw [← hAe]; exact Or.inr h
  have hS : va_S A s.heap s.heap [] := va_S.rf
  have hst := zC.refl mo ad [7, 8, 16, 17, 18, 19, 20, 21, 22, 23, 24, 25, 26, 27, 28, 29, 30, 31, 32] [34, 37] S
  have hl := lv_entry ([.ref mo, .int (nI n8), .int v]) (n := 4) (Nat.le_of_ble_eq_true rfl)
  rw [lg_entry_eq]
  generalize (lg_sl ([.ref mo, .int (nI n8), .int v]) ++ List.replicate (4 - (lg_sl ([.ref mo, .int (nI n8), .int v])).length) Slot.unset).toArray = ls at hl ⊢
  have hl : lv_has ls 4 [(0, .ref mo), (1, .int (nI n8)), (2, .int v)] := hl
  have hi7 : ∀ w ∈ wsX70, w ∈ wsX7_look := by decide +kernel
  refine lv_aload_n hx hb dX7_look_0 rfl (lv_at hl 0 rfl) ?_
  refine zget (ci := 7) (C := RX7) (T := TX7) (N := 42) hx hb hts hi7 hown hK hP hM.1 rfl rfl 22 (by decide) (hts (.fieldLink RX7 71 "LinClusterModel" "zeros" "[I") (by decide +kernel)) (fun _ h9 => h9) (v := .ref (ad 22)) (congrArg (fun z => some (va_rf z)) (((hM.eq hst.1).2.1 22 (by decide)).1)) dX7_look_1 ?_
  refine lv_iload_n hx hb dX7_look_4 rfl (lv_at hl 1 rfl) ?_
  refine ziald hx hb hK hP (hM.2.1 22 (by decide)).2.1 (show G.2.2 (ad 22) = 8 from (hM.2.1 22 (by decide)).2.2) (vp_in_nI (n := n8) (N := 8) (by omega) (by omega)) dX7_look_5 ?_
  refine lv_topi (fun v1 ev1 => ?_)
  rw [(nI_clamp (n := n8) (by omega))] at ev1
  refine lv_istore_n (lv' := [(3, .int v1), (0, .ref mo), (1, .int (nI n8)), (2, .int v)]) hx hb dX7_look_6 rfl hl (by decide) rfl (fun ls hl => ?_)
  refine lv_aload_n hx hb dX7_look_7 rfl (lv_at hl 1 rfl) ?_
  refine zget (ci := 7) (C := RX7) (T := TX7) (N := 42) hx hb hts hi7 hown hK hP hM.1 rfl rfl 22 (by decide) (hts (.fieldLink RX7 71 "LinClusterModel" "zeros" "[I") (by decide +kernel)) (fun _ h9 => h9) (v := .ref (ad 22)) (congrArg (fun z => some (va_rf z)) (((hM.eq hst.1).2.1 22 (by decide)).1)) dX7_look_8 ?_
  refine lv_iload_n hx hb dX7_look_11 rfl (lv_at hl 2 rfl) ?_
  refine lv_iload_n hx hb dX7_look_12 rfl (lv_at hl 3 rfl) ?_
  refine lv_if_ne (tgt := 27) hx hb dX7_look_13 (by decide) (fun c2 => ?_) (fun c2 => ?_)
  · skip
    refine lv_iconst (v := 0) hx hb dX7_look_27 (by decide) ?_
    refine ziast (x := 0) hx hb hK hP hD hS (hM.2.1 22 (by decide)).2.1 (show G.2.2 (ad 22) = 8 from (hM.2.1 22 (by decide)).2.2) (vp_in_nI (n := n8) (N := 8) (by omega) (by omega)) dX7_look_28 (fun H locs hP hD hS => ?_)
    rw [(nI_clamp (n := n8) (by omega))] at hP hD
    have hst := zC.pa hM hst (k := 22) (by decide) (by decide) n8 0
    have hI := hI.free hM (k := 22) (by decide) (by decide) n8 0
    have kn3 := zpi_s S (ad 22) n8 0
    refine lv_aload_n hx hb dX7_look_29 rfl (lv_at hl 1 rfl) ?_
    refine zget (ci := 7) (C := RX7) (T := TX7) (N := 42) hx hb hts hi7 hown hK hP hM.1 rfl rfl 16 (by decide) (hts (.fieldLink RX7 53 "LinClusterModel" "at" "[I") (by decide +kernel)) (fun _ h9 => h9) (v := .ref (ad 16)) (congrArg (fun z => some (va_rf z)) (((hM.eq hst.1).2.1 16 (by decide)).1)) dX7_look_30 ?_
    refine lv_iload_n hx hb dX7_look_33 rfl (lv_at hl 2 rfl) ?_
    refine ziald hx hb hK hP (hM.2.1 16 (by decide)).2.1 (show G.2.2 (ad 16) = 8 from (hM.2.1 16 (by decide)).2.2) (vp_in_nI (n := n8) (N := 8) (by omega) (by omega)) dX7_look_34 ?_
    refine lv_topi (fun v4 ev4 => ?_)
    rw [(nI_clamp (n := n8) (by omega))] at ev4
    refine lv_if_ne (tgt := 85) hx hb dX7_look_35 (by decide) (fun c5 => ?_) (fun c5 => ?_)
    · skip
      refine lv_aload_n hx hb dX7_look_85 rfl (lv_at hl 1 rfl) ?_
      refine zget (ci := 7) (C := RX7) (T := TX7) (N := 42) hx hb hts hi7 hown hK hP hM.1 rfl rfl 23 (by decide) (hts (.fieldLink RX7 74 "LinClusterModel" "ones" "[I") (by decide +kernel)) (fun _ h9 => h9) (v := .ref (ad 23)) (congrArg (fun z => some (va_rf z)) (((hM.eq hst.1).2.1 23 (by decide)).1)) dX7_look_86 ?_
      refine lv_iload_n hx hb dX7_look_89 rfl (lv_at hl 2 rfl) ?_
      refine lv_iload_n hx hb dX7_look_90 rfl (lv_at hl 3 rfl) ?_
      refine lv_iconst (v := 1) hx hb dX7_look_91 (by decide) ?_
      refine lv_icmp_ne (tgt := 106) hx hb dX7_look_92 (by decide) (fun c6 => ?_) (fun c6 => ?_)
      · skip
        refine lv_iconst (v := 0) hx hb dX7_look_106 (by decide) ?_
        refine ziast (x := 0) hx hb hK hP hD hS (hM.2.1 23 (by decide)).2.1 (show G.2.2 (ad 23) = 8 from (hM.2.1 23 (by decide)).2.2) (vp_in_nI (n := n8) (N := 8) (by omega) (by omega)) dX7_look_107 (fun H locs hP hD hS => ?_)
        rw [(nI_clamp (n := n8) (by omega))] at hP hD
        have hst := zC.pa hM hst (k := 23) (by decide) (by decide) n8 0
        have kn7 := zpi_o hM (zpi S (ad 22) n8 0) (i := 22) (k := 23) (by decide) (by decide) (by decide) n8 0 kn3
        have hI := hI.free hM (k := 23) (by decide) (by decide) n8 0
        have kn8 := zpi_s (zpi S (ad 22) n8 0) (ad 23) n8 0
        refine lv_aload_n hx hb dX7_look_108 rfl (lv_at hl 1 rfl) ?_
        refine zget (ci := 7) (C := RX7) (T := TX7) (N := 42) hx hb hts hi7 hown hK hP hM.1 rfl rfl 22 (by decide) (hts (.fieldLink RX7 71 "LinClusterModel" "zeros" "[I") (by decide +kernel)) (fun _ h9 => h9) (v := .ref (ad 22)) (congrArg (fun z => some (va_rf z)) (((hM.eq hst.1).2.1 22 (by decide)).1)) dX7_look_109 ?_
        refine lv_iload_n hx hb dX7_look_112 rfl (lv_at hl 2 rfl) ?_
        refine ziald hx hb hK hP (hM.2.1 22 (by decide)).2.1 (show G.2.2 (ad 22) = 8 from (hM.2.1 22 (by decide)).2.2) (vp_in_nI (n := n8) (N := 8) (by omega) (by omega)) dX7_look_113 ?_
        refine lv_topi (fun v9 ev9 => ?_)
        rw [(nI_clamp (n := n8) (by omega))] at ev9
        obtain rfl : v9 = 0 := ev9.trans kn7
        refine lv_bipush (v := 11) hx hb dX7_look_114 (by decide) ?_
        refine lv_icmp_ne (tgt := 144) hx hb dX7_look_116 (by decide) (fun c10 => ?_) (fun c10 => ?_)
        · skip
          refine lv_aload_n hx hb dX7_look_144 rfl (lv_at hl 1 rfl) ?_
          refine zget (ci := 7) (C := RX7) (T := TX7) (N := 42) hx hb hts hi7 hown hK hP hM.1 rfl rfl 16 (by decide) (hts (.fieldLink RX7 53 "LinClusterModel" "at" "[I") (by decide +kernel)) (fun _ h9 => h9) (v := .ref (ad 16)) (congrArg (fun z => some (va_rf z)) (((hM.eq hst.1).2.1 16 (by decide)).1)) dX7_look_145 ?_
          refine lv_iload_n hx hb dX7_look_148 rfl (lv_at hl 2 rfl) ?_
          refine ziald hx hb hK hP (hM.2.1 16 (by decide)).2.1 (show G.2.2 (ad 16) = 8 from (hM.2.1 16 (by decide)).2.2) (vp_in_nI (n := n8) (N := 8) (by omega) (by omega)) dX7_look_149 ?_
          refine lv_topi (fun v11 ev11 => ?_)
          rw [(nI_clamp (n := n8) (by omega))] at ev11
          refine lv_iconst (v := 2) hx hb dX7_look_150 (by decide) ?_
          refine lv_icmp_ne (tgt := 183) hx hb dX7_look_151 (by decide) (fun c12 => ?_) (fun c12 => ?_)
          · skip
            refine lv_aload_n hx hb dX7_look_183 rfl (lv_at hl 1 rfl) ?_
            refine zget (ci := 7) (C := RX7) (T := TX7) (N := 42) hx hb hts hi7 hown hK hP hM.1 rfl rfl 16 (by decide) (hts (.fieldLink RX7 53 "LinClusterModel" "at" "[I") (by decide +kernel)) (fun _ h9 => h9) (v := .ref (ad 16)) (congrArg (fun z => some (va_rf z)) (((hM.eq hst.1).2.1 16 (by decide)).1)) dX7_look_184 ?_
            refine lv_iload_n hx hb dX7_look_187 rfl (lv_at hl 2 rfl) ?_
            refine ziald hx hb hK hP (hM.2.1 16 (by decide)).2.1 (show G.2.2 (ad 16) = 8 from (hM.2.1 16 (by decide)).2.2) (vp_in_nI (n := n8) (N := 8) (by omega) (by omega)) dX7_look_188 ?_
            refine lv_topi (fun v13 ev13 => ?_)
            rw [(nI_clamp (n := n8) (by omega))] at ev13
            refine lv_iconst (v := 3) hx hb dX7_look_189 (by decide) ?_
            refine lv_icmp_ne (tgt := 202) hx hb dX7_look_190 (by decide) (fun c14 => ?_) (fun c14 => ?_)
            · skip
              refine lv_aload_n hx hb dX7_look_202 rfl (lv_at hl 1 rfl) ?_
              refine zget (ci := 7) (C := RX7) (T := TX7) (N := 42) hx hb hts hi7 hown hK hP hM.1 rfl rfl 16 (by decide) (hts (.fieldLink RX7 53 "LinClusterModel" "at" "[I") (by decide +kernel)) (fun _ h9 => h9) (v := .ref (ad 16)) (congrArg (fun z => some (va_rf z)) (((hM.eq hst.1).2.1 16 (by decide)).1)) dX7_look_203 ?_
              refine lv_iload_n hx hb dX7_look_206 rfl (lv_at hl 2 rfl) ?_
              refine ziald hx hb hK hP (hM.2.1 16 (by decide)).2.1 (show G.2.2 (ad 16) = 8 from (hM.2.1 16 (by decide)).2.2) (vp_in_nI (n := n8) (N := 8) (by omega) (by omega)) dX7_look_207 ?_
              refine lv_topi (fun v15 ev15 => ?_)
              rw [(nI_clamp (n := n8) (by omega))] at ev15
              refine lv_iconst (v := 4) hx hb dX7_look_208 (by decide) ?_
              refine lv_icmp_ne (tgt := 221) hx hb dX7_look_209 (by decide) (fun c16 => ?_) (fun c16 => ?_)
              · skip
                refine lv_aload_n hx hb dX7_look_221 rfl (lv_at hl 1 rfl) ?_
                refine zget (ci := 7) (C := RX7) (T := TX7) (N := 42) hx hb hts hi7 hown hK hP hM.1 rfl rfl 16 (by decide) (hts (.fieldLink RX7 53 "LinClusterModel" "at" "[I") (by decide +kernel)) (fun _ h9 => h9) (v := .ref (ad 16)) (congrArg (fun z => some (va_rf z)) (((hM.eq hst.1).2.1 16 (by decide)).1)) dX7_look_222 ?_
                refine lv_iload_n hx hb dX7_look_225 rfl (lv_at hl 2 rfl) ?_
                refine ziald hx hb hK hP (hM.2.1 16 (by decide)).2.1 (show G.2.2 (ad 16) = 8 from (hM.2.1 16 (by decide)).2.2) (vp_in_nI (n := n8) (N := 8) (by omega) (by omega)) dX7_look_226 ?_
                refine lv_topi (fun v17 ev17 => ?_)
                rw [(nI_clamp (n := n8) (by omega))] at ev17
                refine lv_iconst (v := 5) hx hb dX7_look_227 (by decide) ?_
                refine lv_icmp_ne (tgt := 237) hx hb dX7_look_228 (by decide) (fun c18 => ?_) (fun c18 => ?_)
                · skip
                  refine lv_aload_n hx hb dX7_look_237 rfl (lv_at hl 1 rfl) ?_
                  refine zget (ci := 7) (C := RX7) (T := TX7) (N := 42) hx hb hts hi7 hown hK hP hM.1 rfl rfl 16 (by decide) (hts (.fieldLink RX7 53 "LinClusterModel" "at" "[I") (by decide +kernel)) (fun _ h9 => h9) (v := .ref (ad 16)) (congrArg (fun z => some (va_rf z)) (((hM.eq hst.1).2.1 16 (by decide)).1)) dX7_look_238 ?_
                  refine lv_iload_n hx hb dX7_look_241 rfl (lv_at hl 2 rfl) ?_
                  refine ziald hx hb hK hP (hM.2.1 16 (by decide)).2.1 (show G.2.2 (ad 16) = 8 from (hM.2.1 16 (by decide)).2.2) (vp_in_nI (n := n8) (N := 8) (by omega) (by omega)) dX7_look_242 ?_
                  refine lv_topi (fun v19 ev19 => ?_)
                  rw [(nI_clamp (n := n8) (by omega))] at ev19
                  refine lv_if_eq (tgt := 263) hx hb dX7_look_243 (by decide) (fun c20 => ?_) (fun c20 => ?_)
                  · skip
                    have kn21 := ev19.symm.trans c20
                    exact W.vret hx hb hr (fun t ht hW => ⟨⟨(zpi (zpi S (ad 22) n8 0) (ad 23) n8 0), rfl, ⟨hst, hI⟩, by rw [ht]; exact hP, va_K.moved hW.alike hK, hD⟩, hS.F ht⟩) hS.2.2 dX7_look_263
                  · skip
                    refine lv_aload_n hx hb dX7_look_246 rfl (lv_at hl 1 rfl) ?_
                    refine zget (ci := 7) (C := RX7) (T := TX7) (N := 42) hx hb hts hi7 hown hK hP hM.1 rfl rfl 23 (by decide) (hts (.fieldLink RX7 74 "LinClusterModel" "ones" "[I") (by decide +kernel)) (fun _ h9 => h9) (v := .ref (ad 23)) (congrArg (fun z => some (va_rf z)) (((hM.eq hst.1).2.1 23 (by decide)).1)) dX7_look_247 ?_
                    refine lv_iload_n hx hb dX7_look_250 rfl (lv_at hl 2 rfl) ?_
                    refine ziald hx hb hK hP (hM.2.1 23 (by decide)).2.1 (show G.2.2 (ad 23) = 8 from (hM.2.1 23 (by decide)).2.2) (vp_in_nI (n := n8) (N := 8) (by omega) (by omega)) dX7_look_251 ?_
                    refine lv_topi (fun v22 ev22 => ?_)
                    rw [(nI_clamp (n := n8) (by omega))] at ev22
                    obtain rfl : v22 = 0 := ev22.trans kn8
                    refine lv_sipush (v := 3000) hx hb dX7_look_252 (by decide) ?_
                    refine lv_icmp_ne (tgt := 263) hx hb dX7_look_255 (by decide) (fun c23 => ?_) (fun c23 => ?_)
                    · skip
                      exact W.vret hx hb hr (fun t ht hW => ⟨⟨(zpi (zpi S (ad 22) n8 0) (ad 23) n8 0), rfl, ⟨hst, hI⟩, by rw [ht]; exact hP, va_K.moved hW.alike hK, hD⟩, hS.F ht⟩) hS.2.2 dX7_look_263
                    · exact absurd c23 (by decide)
                · skip
                  have kn24 := ev17.symm.trans c18
                  refine lv_aload_n hx hb dX7_look_231 rfl (lv_at hl 1 rfl) ?_
                  refine lv_iload_n hx hb dX7_look_232 rfl (lv_at hl 2 rfl) ?_
                  refine lv_iload_n hx hb dX7_look_233 rfl (lv_at hl 3 rfl) ?_
                  refine zcallv (va_runV (As := [.int (nI n8), .int v]) (rest := []) ⟨hx, hb, hml, hown, hts⟩ (c_X7_taking l dC dI cy G (zpi (zpi S (ad 22) n8 0) (ad 23) n8 0) H.size mo ad n8 v (hM.eq hst.1) hI (by omega) kn24) (cwV 2 hts gX7_look_X7_taking rfl rfl rfl (by decide +kernel) ⟨Nat.le_of_ble_eq_true rfl, Nat.le_of_ble_eq_true rfl⟩) (zpreV hK hP hD hN (zrecv7 hK hP hM.1)) rfl rfl hl.1 rfl (lv_room (Nat.le_of_ble_eq_true rfl)) dX7_look_234 ⟨Nat.le_of_ble_eq_true rfl, Nat.le_of_ble_eq_true rfl⟩) hS hD hA (fun S26 H locs hr25 hP hD hS => ?_)
                  have hst := hst.trans (hr25.1.mono (by decide) (by decide))
                  have hI := hr25.2
                  refine lv_aload_n hx hb dX7_look_237 rfl (lv_at hl 1 rfl) ?_
                  refine zget (ci := 7) (C := RX7) (T := TX7) (N := 42) hx hb hts hi7 hown hK hP hM.1 rfl rfl 16 (by decide) (hts (.fieldLink RX7 53 "LinClusterModel" "at" "[I") (by decide +kernel)) (fun _ h9 => h9) (v := .ref (ad 16)) (congrArg (fun z => some (va_rf z)) (((hM.eq hst.1).2.1 16 (by decide)).1)) dX7_look_238 ?_
                  refine lv_iload_n hx hb dX7_look_241 rfl (lv_at hl 2 rfl) ?_
                  refine ziald hx hb hK hP (hM.2.1 16 (by decide)).2.1 (show G.2.2 (ad 16) = 8 from (hM.2.1 16 (by decide)).2.2) (vp_in_nI (n := n8) (N := 8) (by omega) (by omega)) dX7_look_242 ?_
                  refine lv_topi (fun v27 ev27 => ?_)
                  rw [(nI_clamp (n := n8) (by omega))] at ev27
                  refine lv_if_eq (tgt := 263) hx hb dX7_look_243 (by decide) (fun c28 => ?_) (fun c28 => ?_)
                  · skip
                    have kn29 := ev27.symm.trans c28
                    exact W.vret hx hb hr (fun t ht hW => ⟨⟨S26, rfl, ⟨hst, hI⟩, by rw [ht]; exact hP, va_K.moved hW.alike hK, hD⟩, hS.F ht⟩) hS.2.2 dX7_look_263
                  · skip
                    refine lv_aload_n hx hb dX7_look_246 rfl (lv_at hl 1 rfl) ?_
                    refine zget (ci := 7) (C := RX7) (T := TX7) (N := 42) hx hb hts hi7 hown hK hP hM.1 rfl rfl 23 (by decide) (hts (.fieldLink RX7 74 "LinClusterModel" "ones" "[I") (by decide +kernel)) (fun _ h9 => h9) (v := .ref (ad 23)) (congrArg (fun z => some (va_rf z)) (((hM.eq hst.1).2.1 23 (by decide)).1)) dX7_look_247 ?_
                    refine lv_iload_n hx hb dX7_look_250 rfl (lv_at hl 2 rfl) ?_
                    refine ziald hx hb hK hP (hM.2.1 23 (by decide)).2.1 (show G.2.2 (ad 23) = 8 from (hM.2.1 23 (by decide)).2.2) (vp_in_nI (n := n8) (N := 8) (by omega) (by omega)) dX7_look_251 ?_
                    refine lv_topi (fun v30 ev30 => ?_)
                    rw [(nI_clamp (n := n8) (by omega))] at ev30
                    refine lv_sipush (v := 3000) hx hb dX7_look_252 (by decide) ?_
                    refine lv_icmp_ne (tgt := 263) hx hb dX7_look_255 (by decide) (fun c31 => ?_) (fun c31 => ?_)
                    · skip
                      exact W.vret hx hb hr (fun t ht hW => ⟨⟨S26, rfl, ⟨hst, hI⟩, by rw [ht]; exact hP, va_K.moved hW.alike hK, hD⟩, hS.F ht⟩) hS.2.2 dX7_look_263
                    · skip
                      have kn32 := ev30.symm.trans c31
                      refine lv_aload_n hx hb dX7_look_258 rfl (lv_at hl 1 rfl) ?_
                      refine lv_iload_n hx hb dX7_look_259 rfl (lv_at hl 2 rfl) ?_
                      refine zcallv (va_runV (As := [.int (nI n8)]) (rest := []) ⟨hx, hb, hml, hown, hts⟩ (c_X7_sleep l dC dI cy G S26 H.size mo ad n8 (hM.eq hst.1) hI (by omega)) (cwV 1 hts gX7_look_X7_sleep rfl rfl rfl (by decide +kernel) ⟨Nat.le_of_ble_eq_true rfl, Nat.le_of_ble_eq_true rfl⟩) (zpreV hK hP hD hN (zrecv7 hK hP hM.1)) rfl rfl hl.1 rfl (lv_room (Nat.le_of_ble_eq_true rfl)) dX7_look_260 ⟨Nat.le_of_ble_eq_true rfl, Nat.le_of_ble_eq_true rfl⟩) hS hD hA (fun S34 H locs hr33 hP hD hS => ?_)
                      have hst := hst.trans (hr33.1.mono (by decide) (by decide))
                      have hI := hr33.2
                      have kn35 := (congrFun (hr33.1.2.1 23 (by decide) (by decide)) n8).trans kn32
                      exact W.vret hx hb hr (fun t ht hW => ⟨⟨S34, rfl, ⟨hst, hI⟩, by rw [ht]; exact hP, va_K.moved hW.alike hK, hD⟩, hS.F ht⟩) hS.2.2 dX7_look_263
              · skip
                have kn36 := ev15.symm.trans c16
                refine lv_aload_n hx hb dX7_look_212 rfl (lv_at hl 1 rfl) ?_
                refine lv_iload_n hx hb dX7_look_213 rfl (lv_at hl 2 rfl) ?_
                refine lv_iload_n hx hb dX7_look_214 rfl (lv_at hl 3 rfl) ?_
                refine zcallv (va_runV (As := [.int (nI n8), .int v]) (rest := []) ⟨hx, hb, hml, hown, hts⟩ (c_X7_saying l dC dI cy G (zpi (zpi S (ad 22) n8 0) (ad 23) n8 0) H.size mo ad n8 v (hM.eq hst.1) hI (by omega) kn36) (cwV 2 hts gX7_look_X7_saying rfl rfl rfl (by decide +kernel) ⟨Nat.le_of_ble_eq_true rfl, Nat.le_of_ble_eq_true rfl⟩) (zpreV hK hP hD hN (zrecv7 hK hP hM.1)) rfl rfl hl.1 rfl (lv_room (Nat.le_of_ble_eq_true rfl)) dX7_look_215 ⟨Nat.le_of_ble_eq_true rfl, Nat.le_of_ble_eq_true rfl⟩) hS hD hA (fun S38 H locs hr37 hP hD hS => ?_)
                have hst := hst.trans (hr37.1.mono (by decide) (by decide))
                have hI := hr37.2
                refine lv_goto (tgt := 237) hx hb dX7_look_218 (by decide) ?_
                refine lv_aload_n hx hb dX7_look_237 rfl (lv_at hl 1 rfl) ?_
                refine zget (ci := 7) (C := RX7) (T := TX7) (N := 42) hx hb hts hi7 hown hK hP hM.1 rfl rfl 16 (by decide) (hts (.fieldLink RX7 53 "LinClusterModel" "at" "[I") (by decide +kernel)) (fun _ h9 => h9) (v := .ref (ad 16)) (congrArg (fun z => some (va_rf z)) (((hM.eq hst.1).2.1 16 (by decide)).1)) dX7_look_238 ?_
                refine lv_iload_n hx hb dX7_look_241 rfl (lv_at hl 2 rfl) ?_
                refine ziald hx hb hK hP (hM.2.1 16 (by decide)).2.1 (show G.2.2 (ad 16) = 8 from (hM.2.1 16 (by decide)).2.2) (vp_in_nI (n := n8) (N := 8) (by omega) (by omega)) dX7_look_242 ?_
                refine lv_topi (fun v39 ev39 => ?_)
                rw [(nI_clamp (n := n8) (by omega))] at ev39
                refine lv_if_eq (tgt := 263) hx hb dX7_look_243 (by decide) (fun c40 => ?_) (fun c40 => ?_)
                · skip
                  have kn41 := ev39.symm.trans c40
                  exact W.vret hx hb hr (fun t ht hW => ⟨⟨S38, rfl, ⟨hst, hI⟩, by rw [ht]; exact hP, va_K.moved hW.alike hK, hD⟩, hS.F ht⟩) hS.2.2 dX7_look_263
                · skip
                  refine lv_aload_n hx hb dX7_look_246 rfl (lv_at hl 1 rfl) ?_
                  refine zget (ci := 7) (C := RX7) (T := TX7) (N := 42) hx hb hts hi7 hown hK hP hM.1 rfl rfl 23 (by decide) (hts (.fieldLink RX7 74 "LinClusterModel" "ones" "[I") (by decide +kernel)) (fun _ h9 => h9) (v := .ref (ad 23)) (congrArg (fun z => some (va_rf z)) (((hM.eq hst.1).2.1 23 (by decide)).1)) dX7_look_247 ?_
                  refine lv_iload_n hx hb dX7_look_250 rfl (lv_at hl 2 rfl) ?_
                  refine ziald hx hb hK hP (hM.2.1 23 (by decide)).2.1 (show G.2.2 (ad 23) = 8 from (hM.2.1 23 (by decide)).2.2) (vp_in_nI (n := n8) (N := 8) (by omega) (by omega)) dX7_look_251 ?_
                  refine lv_topi (fun v42 ev42 => ?_)
                  rw [(nI_clamp (n := n8) (by omega))] at ev42
                  refine lv_sipush (v := 3000) hx hb dX7_look_252 (by decide) ?_
                  refine lv_icmp_ne (tgt := 263) hx hb dX7_look_255 (by decide) (fun c43 => ?_) (fun c43 => ?_)
                  · skip
                    exact W.vret hx hb hr (fun t ht hW => ⟨⟨S38, rfl, ⟨hst, hI⟩, by rw [ht]; exact hP, va_K.moved hW.alike hK, hD⟩, hS.F ht⟩) hS.2.2 dX7_look_263
                  · skip
                    have kn44 := ev42.symm.trans c43
                    refine lv_aload_n hx hb dX7_look_258 rfl (lv_at hl 1 rfl) ?_
                    refine lv_iload_n hx hb dX7_look_259 rfl (lv_at hl 2 rfl) ?_
                    refine zcallv (va_runV (As := [.int (nI n8)]) (rest := []) ⟨hx, hb, hml, hown, hts⟩ (c_X7_sleep l dC dI cy G S38 H.size mo ad n8 (hM.eq hst.1) hI (by omega)) (cwV 1 hts gX7_look_X7_sleep rfl rfl rfl (by decide +kernel) ⟨Nat.le_of_ble_eq_true rfl, Nat.le_of_ble_eq_true rfl⟩) (zpreV hK hP hD hN (zrecv7 hK hP hM.1)) rfl rfl hl.1 rfl (lv_room (Nat.le_of_ble_eq_true rfl)) dX7_look_260 ⟨Nat.le_of_ble_eq_true rfl, Nat.le_of_ble_eq_true rfl⟩) hS hD hA (fun S46 H locs hr45 hP hD hS => ?_)
                    have hst := hst.trans (hr45.1.mono (by decide) (by decide))
                    have hI := hr45.2
                    have kn47 := (congrFun (hr45.1.2.1 23 (by decide) (by decide)) n8).trans kn44
                    exact W.vret hx hb hr (fun t ht hW => ⟨⟨S46, rfl, ⟨hst, hI⟩, by rw [ht]; exact hP, va_K.moved hW.alike hK, hD⟩, hS.F ht⟩) hS.2.2 dX7_look_263
            · skip
              have kn48 := ev13.symm.trans c14
              refine lv_aload_n hx hb dX7_look_193 rfl (lv_at hl 1 rfl) ?_
              refine lv_iload_n hx hb dX7_look_194 rfl (lv_at hl 2 rfl) ?_
              refine lv_iload_n hx hb dX7_look_195 rfl (lv_at hl 3 rfl) ?_
              refine zcallv (va_runV (As := [.int (nI n8), .int v]) (rest := []) ⟨hx, hb, hml, hown, hts⟩ (c_X7_header l dC dI cy G (zpi (zpi S (ad 22) n8 0) (ad 23) n8 0) H.size mo ad n8 v (hM.eq hst.1) hI (by omega) kn48) (cwV 2 hts gX7_look_X7_header rfl rfl rfl (by decide +kernel) ⟨Nat.le_of_ble_eq_true rfl, Nat.le_of_ble_eq_true rfl⟩) (zpreV hK hP hD hN (zrecv7 hK hP hM.1)) rfl rfl hl.1 rfl (lv_room (Nat.le_of_ble_eq_true rfl)) dX7_look_196 ⟨Nat.le_of_ble_eq_true rfl, Nat.le_of_ble_eq_true rfl⟩) hS hD hA (fun S50 H locs hr49 hP hD hS => ?_)
              have hst := hst.trans (hr49.1.mono (by decide) (by decide))
              have hI := hr49.2
              refine lv_goto (tgt := 237) hx hb dX7_look_199 (by decide) ?_
              refine lv_aload_n hx hb dX7_look_237 rfl (lv_at hl 1 rfl) ?_
              refine zget (ci := 7) (C := RX7) (T := TX7) (N := 42) hx hb hts hi7 hown hK hP hM.1 rfl rfl 16 (by decide) (hts (.fieldLink RX7 53 "LinClusterModel" "at" "[I") (by decide +kernel)) (fun _ h9 => h9) (v := .ref (ad 16)) (congrArg (fun z => some (va_rf z)) (((hM.eq hst.1).2.1 16 (by decide)).1)) dX7_look_238 ?_
              refine lv_iload_n hx hb dX7_look_241 rfl (lv_at hl 2 rfl) ?_
              refine ziald hx hb hK hP (hM.2.1 16 (by decide)).2.1 (show G.2.2 (ad 16) = 8 from (hM.2.1 16 (by decide)).2.2) (vp_in_nI (n := n8) (N := 8) (by omega) (by omega)) dX7_look_242 ?_
              refine lv_topi (fun v51 ev51 => ?_)
              rw [(nI_clamp (n := n8) (by omega))] at ev51
              refine lv_if_eq (tgt := 263) hx hb dX7_look_243 (by decide) (fun c52 => ?_) (fun c52 => ?_)
              · skip
                have kn53 := ev51.symm.trans c52
                exact W.vret hx hb hr (fun t ht hW => ⟨⟨S50, rfl, ⟨hst, hI⟩, by rw [ht]; exact hP, va_K.moved hW.alike hK, hD⟩, hS.F ht⟩) hS.2.2 dX7_look_263
              · skip
                refine lv_aload_n hx hb dX7_look_246 rfl (lv_at hl 1 rfl) ?_
                refine zget (ci := 7) (C := RX7) (T := TX7) (N := 42) hx hb hts hi7 hown hK hP hM.1 rfl rfl 23 (by decide) (hts (.fieldLink RX7 74 "LinClusterModel" "ones" "[I") (by decide +kernel)) (fun _ h9 => h9) (v := .ref (ad 23)) (congrArg (fun z => some (va_rf z)) (((hM.eq hst.1).2.1 23 (by decide)).1)) dX7_look_247 ?_
                refine lv_iload_n hx hb dX7_look_250 rfl (lv_at hl 2 rfl) ?_
                refine ziald hx hb hK hP (hM.2.1 23 (by decide)).2.1 (show G.2.2 (ad 23) = 8 from (hM.2.1 23 (by decide)).2.2) (vp_in_nI (n := n8) (N := 8) (by omega) (by omega)) dX7_look_251 ?_
                refine lv_topi (fun v54 ev54 => ?_)
                rw [(nI_clamp (n := n8) (by omega))] at ev54
                refine lv_sipush (v := 3000) hx hb dX7_look_252 (by decide) ?_
                refine lv_icmp_ne (tgt := 263) hx hb dX7_look_255 (by decide) (fun c55 => ?_) (fun c55 => ?_)
                · skip
                  exact W.vret hx hb hr (fun t ht hW => ⟨⟨S50, rfl, ⟨hst, hI⟩, by rw [ht]; exact hP, va_K.moved hW.alike hK, hD⟩, hS.F ht⟩) hS.2.2 dX7_look_263
                · skip
                  have kn56 := ev54.symm.trans c55
                  refine lv_aload_n hx hb dX7_look_258 rfl (lv_at hl 1 rfl) ?_
                  refine lv_iload_n hx hb dX7_look_259 rfl (lv_at hl 2 rfl) ?_
                  refine zcallv (va_runV (As := [.int (nI n8)]) (rest := []) ⟨hx, hb, hml, hown, hts⟩ (c_X7_sleep l dC dI cy G S50 H.size mo ad n8 (hM.eq hst.1) hI (by omega)) (cwV 1 hts gX7_look_X7_sleep rfl rfl rfl (by decide +kernel) ⟨Nat.le_of_ble_eq_true rfl, Nat.le_of_ble_eq_true rfl⟩) (zpreV hK hP hD hN (zrecv7 hK hP hM.1)) rfl rfl hl.1 rfl (lv_room (Nat.le_of_ble_eq_true rfl)) dX7_look_260 ⟨Nat.le_of_ble_eq_true rfl, Nat.le_of_ble_eq_true rfl⟩) hS hD hA (fun S58 H locs hr57 hP hD hS => ?_)
                  have hst := hst.trans (hr57.1.mono (by decide) (by decide))
                  have hI := hr57.2
                  have kn59 := (congrFun (hr57.1.2.1 23 (by decide) (by decide)) n8).trans kn56
                  exact W.vret hx hb hr (fun t ht hW => ⟨⟨S58, rfl, ⟨hst, hI⟩, by rw [ht]; exact hP, va_K.moved hW.alike hK, hD⟩, hS.F ht⟩) hS.2.2 dX7_look_263
          · skip
            have kn60 := ev11.symm.trans c12
            refine lv_iload_n hx hb dX7_look_154 rfl (lv_at hl 3 rfl) ?_
            refine lv_iconst (v := 1) hx hb dX7_look_155 (by decide) ?_
            refine lv_icmp_ne (tgt := 237) hx hb dX7_look_156 (by decide) (fun c61 => ?_) (fun c61 => ?_)
            · skip
              refine lv_aload_n hx hb dX7_look_237 rfl (lv_at hl 1 rfl) ?_
              refine zget (ci := 7) (C := RX7) (T := TX7) (N := 42) hx hb hts hi7 hown hK hP hM.1 rfl rfl 16 (by decide) (hts (.fieldLink RX7 53 "LinClusterModel" "at" "[I") (by decide +kernel)) (fun _ h9 => h9) (v := .ref (ad 16)) (congrArg (fun z => some (va_rf z)) (((hM.eq hst.1).2.1 16 (by decide)).1)) dX7_look_238 ?_
              refine lv_iload_n hx hb dX7_look_241 rfl (lv_at hl 2 rfl) ?_
              refine ziald hx hb hK hP (hM.2.1 16 (by decide)).2.1 (show G.2.2 (ad 16) = 8 from (hM.2.1 16 (by decide)).2.2) (vp_in_nI (n := n8) (N := 8) (by omega) (by omega)) dX7_look_242 ?_
              refine lv_topi (fun v62 ev62 => ?_)
              rw [(nI_clamp (n := n8) (by omega))] at ev62
              obtain rfl : v62 = 2 := ev62.trans kn60
              refine lv_if_eq (tgt := 263) hx hb dX7_look_243 (by decide) (fun c63 => ?_) (fun c63 => ?_)
              · exact absurd c63 (by decide)
              · skip
                refine lv_aload_n hx hb dX7_look_246 rfl (lv_at hl 1 rfl) ?_
                refine zget (ci := 7) (C := RX7) (T := TX7) (N := 42) hx hb hts hi7 hown hK hP hM.1 rfl rfl 23 (by decide) (hts (.fieldLink RX7 74 "LinClusterModel" "ones" "[I") (by decide +kernel)) (fun _ h9 => h9) (v := .ref (ad 23)) (congrArg (fun z => some (va_rf z)) (((hM.eq hst.1).2.1 23 (by decide)).1)) dX7_look_247 ?_
                refine lv_iload_n hx hb dX7_look_250 rfl (lv_at hl 2 rfl) ?_
                refine ziald hx hb hK hP (hM.2.1 23 (by decide)).2.1 (show G.2.2 (ad 23) = 8 from (hM.2.1 23 (by decide)).2.2) (vp_in_nI (n := n8) (N := 8) (by omega) (by omega)) dX7_look_251 ?_
                refine lv_topi (fun v64 ev64 => ?_)
                rw [(nI_clamp (n := n8) (by omega))] at ev64
                obtain rfl : v64 = 0 := ev64.trans kn8
                refine lv_sipush (v := 3000) hx hb dX7_look_252 (by decide) ?_
                refine lv_icmp_ne (tgt := 263) hx hb dX7_look_255 (by decide) (fun c65 => ?_) (fun c65 => ?_)
                · skip
                  exact W.vret hx hb hr (fun t ht hW => ⟨⟨(zpi (zpi S (ad 22) n8 0) (ad 23) n8 0), rfl, ⟨hst, hI⟩, by rw [ht]; exact hP, va_K.moved hW.alike hK, hD⟩, hS.F ht⟩) hS.2.2 dX7_look_263
                · exact absurd c65 (by decide)
            · skip
              refine lv_aload_n hx hb dX7_look_159 rfl (lv_at hl 1 rfl) ?_
              refine zget (ci := 7) (C := RX7) (T := TX7) (N := 42) hx hb hts hi7 hown hK hP hM.1 rfl rfl 16 (by decide) (hts (.fieldLink RX7 53 "LinClusterModel" "at" "[I") (by decide +kernel)) (fun _ h9 => h9) (v := .ref (ad 16)) (congrArg (fun z => some (va_rf z)) (((hM.eq hst.1).2.1 16 (by decide)).1)) dX7_look_160 ?_
              refine lv_iload_n hx hb dX7_look_163 rfl (lv_at hl 2 rfl) ?_
              refine lv_iconst (v := 3) hx hb dX7_look_164 (by decide) ?_
              refine ziast (x := 3) hx hb hK hP hD hS (hM.2.1 16 (by decide)).2.1 (show G.2.2 (ad 16) = 8 from (hM.2.1 16 (by decide)).2.2) (vp_in_nI (n := n8) (N := 8) (by omega) (by omega)) dX7_look_165 (fun H locs hP hD hS => ?_)
              rw [(nI_clamp (n := n8) (by omega))] at hP hD
              have hst := zC.pa hM hst (k := 16) (by decide) (by decide) n8 3
              have kn66 := zpi_o hM (zpi (zpi S (ad 22) n8 0) (ad 23) n8 0) (i := 22) (k := 16) (by decide) (by decide) (by decide) n8 3 kn7
              have kn67 := zpi_o hM (zpi (zpi S (ad 22) n8 0) (ad 23) n8 0) (i := 23) (k := 16) (by decide) (by decide) (by decide) n8 3 kn8
              have hI := hI.at hM hn8 (v := 3) (by decide) (by decide)
              have kn68 := zpi_s (zpi (zpi S (ad 22) n8 0) (ad 23) n8 0) (ad 16) n8 3
              refine lv_aload_n hx hb dX7_look_166 rfl (lv_at hl 1 rfl) ?_
              refine zget (ci := 7) (C := RX7) (T := TX7) (N := 42) hx hb hts hi7 hown hK hP hM.1 rfl rfl 27 (by decide) (hts (.fieldLink RX7 86 "LinClusterModel" "characters" "[I") (by decide +kernel)) (fun _ h9 => h9) (v := .ref (ad 27)) (congrArg (fun z => some (va_rf z)) (((hM.eq hst.1).2.1 27 (by decide)).1)) dX7_look_167 ?_
              refine lv_iload_n hx hb dX7_look_170 rfl (lv_at hl 2 rfl) ?_
              refine lv_iconst (v := 0) hx hb dX7_look_171 (by decide) ?_
              refine ziast (x := 0) hx hb hK hP hD hS (hM.2.1 27 (by decide)).2.1 (show G.2.2 (ad 27) = 8 from (hM.2.1 27 (by decide)).2.2) (vp_in_nI (n := n8) (N := 8) (by omega) (by omega)) dX7_look_172 (fun H locs hP hD hS => ?_)
              rw [(nI_clamp (n := n8) (by omega))] at hP hD
              have hst := zC.pa hM hst (k := 27) (by decide) (by decide) n8 0
              have kn69 := zpi_o hM (zpi (zpi (zpi S (ad 22) n8 0) (ad 23) n8 0) (ad 16) n8 3) (i := 22) (k := 27) (by decide) (by decide) (by decide) n8 0 kn66
              have kn70 := zpi_o hM (zpi (zpi (zpi S (ad 22) n8 0) (ad 23) n8 0) (ad 16) n8 3) (i := 23) (k := 27) (by decide) (by decide) (by decide) n8 0 kn67
              have kn71 := zpi_o hM (zpi (zpi (zpi S (ad 22) n8 0) (ad 23) n8 0) (ad 16) n8 3) (i := 16) (k := 27) (by decide) (by decide) (by decide) n8 0 kn68
              have hI := hI.ix hn8
              have hI := hI.ch hM 0
              have kn72 := zpi_s (zpi (zpi (zpi S (ad 22) n8 0) (ad 23) n8 0) (ad 16) n8 3) (ad 27) n8 0
              have hI := hI.idle (by rw [kn71]; decide) (by rw [kn71]; decide)
              refine lv_aload_n hx hb dX7_look_173 rfl (lv_at hl 1 rfl) ?_
              refine zget (ci := 7) (C := RX7) (T := TX7) (N := 42) hx hb hts hi7 hown hK hP hM.1 rfl rfl 25 (by decide) (hts (.fieldLink RX7 80 "LinClusterModel" "bitsSoFar" "[I") (by decide +kernel)) (fun _ h9 => h9) (v := .ref (ad 25)) (congrArg (fun z => some (va_rf z)) (((hM.eq hst.1).2.1 25 (by decide)).1)) dX7_look_174 ?_
              refine lv_iload_n hx hb dX7_look_177 rfl (lv_at hl 2 rfl) ?_
              refine lv_iconst (v := 0) hx hb dX7_look_178 (by decide) ?_
              refine ziast (x := 0) hx hb hK hP hD hS (hM.2.1 25 (by decide)).2.1 (show G.2.2 (ad 25) = 8 from (hM.2.1 25 (by decide)).2.2) (vp_in_nI (n := n8) (N := 8) (by omega) (by omega)) dX7_look_179 (fun H locs hP hD hS => ?_)
              rw [(nI_clamp (n := n8) (by omega))] at hP hD
              have hst := zC.pa hM hst (k := 25) (by decide) (by decide) n8 0
              have kn73 := zpi_o hM (zpi (zpi (zpi (zpi S (ad 22) n8 0) (ad 23) n8 0) (ad 16) n8 3) (ad 27) n8 0) (i := 22) (k := 25) (by decide) (by decide) (by decide) n8 0 kn69
              have kn74 := zpi_o hM (zpi (zpi (zpi (zpi S (ad 22) n8 0) (ad 23) n8 0) (ad 16) n8 3) (ad 27) n8 0) (i := 23) (k := 25) (by decide) (by decide) (by decide) n8 0 kn70
              have kn75 := zpi_o hM (zpi (zpi (zpi (zpi S (ad 22) n8 0) (ad 23) n8 0) (ad 16) n8 3) (ad 27) n8 0) (i := 16) (k := 25) (by decide) (by decide) (by decide) n8 0 kn71
              have kn76 := zpi_o hM (zpi (zpi (zpi (zpi S (ad 22) n8 0) (ad 23) n8 0) (ad 16) n8 3) (ad 27) n8 0) (i := 27) (k := 25) (by decide) (by decide) (by decide) n8 0 kn72
              have hI := hI.free hM (k := 25) (by decide) (by decide) n8 0
              have kn77 := zpi_s (zpi (zpi (zpi (zpi S (ad 22) n8 0) (ad 23) n8 0) (ad 16) n8 3) (ad 27) n8 0) (ad 25) n8 0
              refine lv_goto (tgt := 237) hx hb dX7_look_180 (by decide) ?_
              refine lv_aload_n hx hb dX7_look_237 rfl (lv_at hl 1 rfl) ?_
              refine zget (ci := 7) (C := RX7) (T := TX7) (N := 42) hx hb hts hi7 hown hK hP hM.1 rfl rfl 16 (by decide) (hts (.fieldLink RX7 53 "LinClusterModel" "at" "[I") (by decide +kernel)) (fun _ h9 => h9) (v := .ref (ad 16)) (congrArg (fun z => some (va_rf z)) (((hM.eq hst.1).2.1 16 (by decide)).1)) dX7_look_238 ?_
              refine lv_iload_n hx hb dX7_look_241 rfl (lv_at hl 2 rfl) ?_
              refine ziald hx hb hK hP (hM.2.1 16 (by decide)).2.1 (show G.2.2 (ad 16) = 8 from (hM.2.1 16 (by decide)).2.2) (vp_in_nI (n := n8) (N := 8) (by omega) (by omega)) dX7_look_242 ?_
              refine lv_topi (fun v78 ev78 => ?_)
              rw [(nI_clamp (n := n8) (by omega))] at ev78
              obtain rfl : v78 = 3 := ev78.trans kn75
              refine lv_if_eq (tgt := 263) hx hb dX7_look_243 (by decide) (fun c79 => ?_) (fun c79 => ?_)
              · exact absurd c79 (by decide)
              · skip
                refine lv_aload_n hx hb dX7_look_246 rfl (lv_at hl 1 rfl) ?_
                refine zget (ci := 7) (C := RX7) (T := TX7) (N := 42) hx hb hts hi7 hown hK hP hM.1 rfl rfl 23 (by decide) (hts (.fieldLink RX7 74 "LinClusterModel" "ones" "[I") (by decide +kernel)) (fun _ h9 => h9) (v := .ref (ad 23)) (congrArg (fun z => some (va_rf z)) (((hM.eq hst.1).2.1 23 (by decide)).1)) dX7_look_247 ?_
                refine lv_iload_n hx hb dX7_look_250 rfl (lv_at hl 2 rfl) ?_
                refine ziald hx hb hK hP (hM.2.1 23 (by decide)).2.1 (show G.2.2 (ad 23) = 8 from (hM.2.1 23 (by decide)).2.2) (vp_in_nI (n := n8) (N := 8) (by omega) (by omega)) dX7_look_251 ?_
                refine lv_topi (fun v80 ev80 => ?_)
                rw [(nI_clamp (n := n8) (by omega))] at ev80
                obtain rfl : v80 = 0 := ev80.trans kn74
                refine lv_sipush (v := 3000) hx hb dX7_look_252 (by decide) ?_
                refine lv_icmp_ne (tgt := 263) hx hb dX7_look_255 (by decide) (fun c81 => ?_) (fun c81 => ?_)
                · skip
                  exact W.vret hx hb hr (fun t ht hW => ⟨⟨(zpi (zpi (zpi (zpi (zpi S (ad 22) n8 0) (ad 23) n8 0) (ad 16) n8 3) (ad 27) n8 0) (ad 25) n8 0), rfl, ⟨hst, hI⟩, by rw [ht]; exact hP, va_K.moved hW.alike hK, hD⟩, hS.F ht⟩) hS.2.2 dX7_look_263
                · exact absurd c81 (by decide)
        · exact absurd c10 (by decide)
      · skip
        refine lv_aload_n hx hb dX7_look_95 rfl (lv_at hl 1 rfl) ?_
        refine zget (ci := 7) (C := RX7) (T := TX7) (N := 42) hx hb hts hi7 hown hK hP hM.1 rfl rfl 23 (by decide) (hts (.fieldLink RX7 74 "LinClusterModel" "ones" "[I") (by decide +kernel)) (fun _ h9 => h9) (v := .ref (ad 23)) (congrArg (fun z => some (va_rf z)) (((hM.eq hst.1).2.1 23 (by decide)).1)) dX7_look_96 ?_
        refine lv_iload_n hx hb dX7_look_99 rfl (lv_at hl 2 rfl) ?_
        refine ziald hx hb hK hP (hM.2.1 23 (by decide)).2.1 (show G.2.2 (ad 23) = 8 from (hM.2.1 23 (by decide)).2.2) (vp_in_nI (n := n8) (N := 8) (by omega) (by omega)) dX7_look_100 ?_
        refine lv_topi (fun v82 ev82 => ?_)
        rw [(nI_clamp (n := n8) (by omega))] at ev82
        refine lv_iconst (v := 1) hx hb dX7_look_101 (by decide) ?_
        refine lv_iadd hx hb dX7_look_102 ?_
        refine lv_topi (fun v83 ev83 => ?_)
        refine lv_goto (tgt := 107) hx hb dX7_look_103 (by decide) ?_
        refine ziast (x := v83) hx hb hK hP hD hS (hM.2.1 23 (by decide)).2.1 (show G.2.2 (ad 23) = 8 from (hM.2.1 23 (by decide)).2.2) (vp_in_nI (n := n8) (N := 8) (by omega) (by omega)) dX7_look_107 (fun H locs hP hD hS => ?_)
        rw [(nI_clamp (n := n8) (by omega))] at hP hD
        have hst := zC.pa hM hst (k := 23) (by decide) (by decide) n8 v83
        have kn84 := zpi_o hM (zpi S (ad 22) n8 0) (i := 22) (k := 23) (by decide) (by decide) (by decide) n8 v83 kn3
        have hI := hI.free hM (k := 23) (by decide) (by decide) n8 v83
        have kn85 := zpi_s (zpi S (ad 22) n8 0) (ad 23) n8 v83
        refine lv_aload_n hx hb dX7_look_108 rfl (lv_at hl 1 rfl) ?_
        refine zget (ci := 7) (C := RX7) (T := TX7) (N := 42) hx hb hts hi7 hown hK hP hM.1 rfl rfl 22 (by decide) (hts (.fieldLink RX7 71 "LinClusterModel" "zeros" "[I") (by decide +kernel)) (fun _ h9 => h9) (v := .ref (ad 22)) (congrArg (fun z => some (va_rf z)) (((hM.eq hst.1).2.1 22 (by decide)).1)) dX7_look_109 ?_
        refine lv_iload_n hx hb dX7_look_112 rfl (lv_at hl 2 rfl) ?_
        refine ziald hx hb hK hP (hM.2.1 22 (by decide)).2.1 (show G.2.2 (ad 22) = 8 from (hM.2.1 22 (by decide)).2.2) (vp_in_nI (n := n8) (N := 8) (by omega) (by omega)) dX7_look_113 ?_
        refine lv_topi (fun v86 ev86 => ?_)
        rw [(nI_clamp (n := n8) (by omega))] at ev86
        obtain rfl : v86 = 0 := ev86.trans kn84
        refine lv_bipush (v := 11) hx hb dX7_look_114 (by decide) ?_
        refine lv_icmp_ne (tgt := 144) hx hb dX7_look_116 (by decide) (fun c87 => ?_) (fun c87 => ?_)
        · skip
          refine lv_aload_n hx hb dX7_look_144 rfl (lv_at hl 1 rfl) ?_
          refine zget (ci := 7) (C := RX7) (T := TX7) (N := 42) hx hb hts hi7 hown hK hP hM.1 rfl rfl 16 (by decide) (hts (.fieldLink RX7 53 "LinClusterModel" "at" "[I") (by decide +kernel)) (fun _ h9 => h9) (v := .ref (ad 16)) (congrArg (fun z => some (va_rf z)) (((hM.eq hst.1).2.1 16 (by decide)).1)) dX7_look_145 ?_
          refine lv_iload_n hx hb dX7_look_148 rfl (lv_at hl 2 rfl) ?_
          refine ziald hx hb hK hP (hM.2.1 16 (by decide)).2.1 (show G.2.2 (ad 16) = 8 from (hM.2.1 16 (by decide)).2.2) (vp_in_nI (n := n8) (N := 8) (by omega) (by omega)) dX7_look_149 ?_
          refine lv_topi (fun v88 ev88 => ?_)
          rw [(nI_clamp (n := n8) (by omega))] at ev88
          refine lv_iconst (v := 2) hx hb dX7_look_150 (by decide) ?_
          refine lv_icmp_ne (tgt := 183) hx hb dX7_look_151 (by decide) (fun c89 => ?_) (fun c89 => ?_)
          · skip
            refine lv_aload_n hx hb dX7_look_183 rfl (lv_at hl 1 rfl) ?_
            refine zget (ci := 7) (C := RX7) (T := TX7) (N := 42) hx hb hts hi7 hown hK hP hM.1 rfl rfl 16 (by decide) (hts (.fieldLink RX7 53 "LinClusterModel" "at" "[I") (by decide +kernel)) (fun _ h9 => h9) (v := .ref (ad 16)) (congrArg (fun z => some (va_rf z)) (((hM.eq hst.1).2.1 16 (by decide)).1)) dX7_look_184 ?_
            refine lv_iload_n hx hb dX7_look_187 rfl (lv_at hl 2 rfl) ?_
            refine ziald hx hb hK hP (hM.2.1 16 (by decide)).2.1 (show G.2.2 (ad 16) = 8 from (hM.2.1 16 (by decide)).2.2) (vp_in_nI (n := n8) (N := 8) (by omega) (by omega)) dX7_look_188 ?_
            refine lv_topi (fun v90 ev90 => ?_)
            rw [(nI_clamp (n := n8) (by omega))] at ev90
            refine lv_iconst (v := 3) hx hb dX7_look_189 (by decide) ?_
            refine lv_icmp_ne (tgt := 202) hx hb dX7_look_190 (by decide) (fun c91 => ?_) (fun c91 => ?_)
            · skip
              refine lv_aload_n hx hb dX7_look_202 rfl (lv_at hl 1 rfl) ?_
              refine zget (ci := 7) (C := RX7) (T := TX7) (N := 42) hx hb hts hi7 hown hK hP hM.1 rfl rfl 16 (by decide) (hts (.fieldLink RX7 53 "LinClusterModel" "at" "[I") (by decide +kernel)) (fun _ h9 => h9) (v := .ref (ad 16)) (congrArg (fun z => some (va_rf z)) (((hM.eq hst.1).2.1 16 (by decide)).1)) dX7_look_203 ?_
              refine lv_iload_n hx hb dX7_look_206 rfl (lv_at hl 2 rfl) ?_
              refine ziald hx hb hK hP (hM.2.1 16 (by decide)).2.1 (show G.2.2 (ad 16) = 8 from (hM.2.1 16 (by decide)).2.2) (vp_in_nI (n := n8) (N := 8) (by omega) (by omega)) dX7_look_207 ?_
              refine lv_topi (fun v92 ev92 => ?_)
              rw [(nI_clamp (n := n8) (by omega))] at ev92
              refine lv_iconst (v := 4) hx hb dX7_look_208 (by decide) ?_
              refine lv_icmp_ne (tgt := 221) hx hb dX7_look_209 (by decide) (fun c93 => ?_) (fun c93 => ?_)
              · skip
                refine lv_aload_n hx hb dX7_look_221 rfl (lv_at hl 1 rfl) ?_
                refine zget (ci := 7) (C := RX7) (T := TX7) (N := 42) hx hb hts hi7 hown hK hP hM.1 rfl rfl 16 (by decide) (hts (.fieldLink RX7 53 "LinClusterModel" "at" "[I") (by decide +kernel)) (fun _ h9 => h9) (v := .ref (ad 16)) (congrArg (fun z => some (va_rf z)) (((hM.eq hst.1).2.1 16 (by decide)).1)) dX7_look_222 ?_
                refine lv_iload_n hx hb dX7_look_225 rfl (lv_at hl 2 rfl) ?_
                refine ziald hx hb hK hP (hM.2.1 16 (by decide)).2.1 (show G.2.2 (ad 16) = 8 from (hM.2.1 16 (by decide)).2.2) (vp_in_nI (n := n8) (N := 8) (by omega) (by omega)) dX7_look_226 ?_
                refine lv_topi (fun v94 ev94 => ?_)
                rw [(nI_clamp (n := n8) (by omega))] at ev94
                refine lv_iconst (v := 5) hx hb dX7_look_227 (by decide) ?_
                refine lv_icmp_ne (tgt := 237) hx hb dX7_look_228 (by decide) (fun c95 => ?_) (fun c95 => ?_)
                · skip
                  refine lv_aload_n hx hb dX7_look_237 rfl (lv_at hl 1 rfl) ?_
                  refine zget (ci := 7) (C := RX7) (T := TX7) (N := 42) hx hb hts hi7 hown hK hP hM.1 rfl rfl 16 (by decide) (hts (.fieldLink RX7 53 "LinClusterModel" "at" "[I") (by decide +kernel)) (fun _ h9 => h9) (v := .ref (ad 16)) (congrArg (fun z => some (va_rf z)) (((hM.eq hst.1).2.1 16 (by decide)).1)) dX7_look_238 ?_
                  refine lv_iload_n hx hb dX7_look_241 rfl (lv_at hl 2 rfl) ?_
                  refine ziald hx hb hK hP (hM.2.1 16 (by decide)).2.1 (show G.2.2 (ad 16) = 8 from (hM.2.1 16 (by decide)).2.2) (vp_in_nI (n := n8) (N := 8) (by omega) (by omega)) dX7_look_242 ?_
                  refine lv_topi (fun v96 ev96 => ?_)
                  rw [(nI_clamp (n := n8) (by omega))] at ev96
                  refine lv_if_eq (tgt := 263) hx hb dX7_look_243 (by decide) (fun c97 => ?_) (fun c97 => ?_)
                  · skip
                    have kn98 := ev96.symm.trans c97
                    exact W.vret hx hb hr (fun t ht hW => ⟨⟨(zpi (zpi S (ad 22) n8 0) (ad 23) n8 v83), rfl, ⟨hst, hI⟩, by rw [ht]; exact hP, va_K.moved hW.alike hK, hD⟩, hS.F ht⟩) hS.2.2 dX7_look_263
                  · skip
                    refine lv_aload_n hx hb dX7_look_246 rfl (lv_at hl 1 rfl) ?_
                    refine zget (ci := 7) (C := RX7) (T := TX7) (N := 42) hx hb hts hi7 hown hK hP hM.1 rfl rfl 23 (by decide) (hts (.fieldLink RX7 74 "LinClusterModel" "ones" "[I") (by decide +kernel)) (fun _ h9 => h9) (v := .ref (ad 23)) (congrArg (fun z => some (va_rf z)) (((hM.eq hst.1).2.1 23 (by decide)).1)) dX7_look_247 ?_
                    refine lv_iload_n hx hb dX7_look_250 rfl (lv_at hl 2 rfl) ?_
                    refine ziald hx hb hK hP (hM.2.1 23 (by decide)).2.1 (show G.2.2 (ad 23) = 8 from (hM.2.1 23 (by decide)).2.2) (vp_in_nI (n := n8) (N := 8) (by omega) (by omega)) dX7_look_251 ?_
                    refine lv_topi (fun v99 ev99 => ?_)
                    rw [(nI_clamp (n := n8) (by omega))] at ev99
                    refine lv_sipush (v := 3000) hx hb dX7_look_252 (by decide) ?_
                    refine lv_icmp_ne (tgt := 263) hx hb dX7_look_255 (by decide) (fun c100 => ?_) (fun c100 => ?_)
                    · skip
                      exact W.vret hx hb hr (fun t ht hW => ⟨⟨(zpi (zpi S (ad 22) n8 0) (ad 23) n8 v83), rfl, ⟨hst, hI⟩, by rw [ht]; exact hP, va_K.moved hW.alike hK, hD⟩, hS.F ht⟩) hS.2.2 dX7_look_263
                    · skip
                      have kn101 := ev99.symm.trans c100
                      refine lv_aload_n hx hb dX7_look_258 rfl (lv_at hl 1 rfl) ?_
                      refine lv_iload_n hx hb dX7_look_259 rfl (lv_at hl 2 rfl) ?_
                      refine zcallv (va_runV (As := [.int (nI n8)]) (rest := []) ⟨hx, hb, hml, hown, hts⟩ (c_X7_sleep l dC dI cy G (zpi (zpi S (ad 22) n8 0) (ad 23) n8 v83) H.size mo ad n8 (hM.eq hst.1) hI (by omega)) (cwV 1 hts gX7_look_X7_sleep rfl rfl rfl (by decide +kernel) ⟨Nat.le_of_ble_eq_true rfl, Nat.le_of_ble_eq_true rfl⟩) (zpreV hK hP hD hN (zrecv7 hK hP hM.1)) rfl rfl hl.1 rfl (lv_room (Nat.le_of_ble_eq_true rfl)) dX7_look_260 ⟨Nat.le_of_ble_eq_true rfl, Nat.le_of_ble_eq_true rfl⟩) hS hD hA (fun S103 H locs hr102 hP hD hS => ?_)
                      have hst := hst.trans (hr102.1.mono (by decide) (by decide))
                      have hI := hr102.2
                      have kn104 := (congrFun (hr102.1.2.1 22 (by decide) (by decide)) n8).trans kn84
                      have kn105 := (congrFun (hr102.1.2.1 23 (by decide) (by decide)) n8).trans kn101
                      exact W.vret hx hb hr (fun t ht hW => ⟨⟨S103, rfl, ⟨hst, hI⟩, by rw [ht]; exact hP, va_K.moved hW.alike hK, hD⟩, hS.F ht⟩) hS.2.2 dX7_look_263
                · skip
                  have kn106 := ev94.symm.trans c95
                  refine lv_aload_n hx hb dX7_look_231 rfl (lv_at hl 1 rfl) ?_
                  refine lv_iload_n hx hb dX7_look_232 rfl (lv_at hl 2 rfl) ?_
                  refine lv_iload_n hx hb dX7_look_233 rfl (lv_at hl 3 rfl) ?_
                  refine zcallv (va_runV (As := [.int (nI n8), .int v]) (rest := []) ⟨hx, hb, hml, hown, hts⟩ (c_X7_taking l dC dI cy G (zpi (zpi S (ad 22) n8 0) (ad 23) n8 v83) H.size mo ad n8 v (hM.eq hst.1) hI (by omega) kn106) (cwV 2 hts gX7_look_X7_taking rfl rfl rfl (by decide +kernel) ⟨Nat.le_of_ble_eq_true rfl, Nat.le_of_ble_eq_true rfl⟩) (zpreV hK hP hD hN (zrecv7 hK hP hM.1)) rfl rfl hl.1 rfl (lv_room (Nat.le_of_ble_eq_true rfl)) dX7_look_234 ⟨Nat.le_of_ble_eq_true rfl, Nat.le_of_ble_eq_true rfl⟩) hS hD hA (fun S108 H locs hr107 hP hD hS => ?_)
                  have hst := hst.trans (hr107.1.mono (by decide) (by decide))
                  have hI := hr107.2
                  refine lv_aload_n hx hb dX7_look_237 rfl (lv_at hl 1 rfl) ?_
                  refine zget (ci := 7) (C := RX7) (T := TX7) (N := 42) hx hb hts hi7 hown hK hP hM.1 rfl rfl 16 (by decide) (hts (.fieldLink RX7 53 "LinClusterModel" "at" "[I") (by decide +kernel)) (fun _ h9 => h9) (v := .ref (ad 16)) (congrArg (fun z => some (va_rf z)) (((hM.eq hst.1).2.1 16 (by decide)).1)) dX7_look_238 ?_
                  refine lv_iload_n hx hb dX7_look_241 rfl (lv_at hl 2 rfl) ?_
                  refine ziald hx hb hK hP (hM.2.1 16 (by decide)).2.1 (show G.2.2 (ad 16) = 8 from (hM.2.1 16 (by decide)).2.2) (vp_in_nI (n := n8) (N := 8) (by omega) (by omega)) dX7_look_242 ?_
                  refine lv_topi (fun v109 ev109 => ?_)
                  rw [(nI_clamp (n := n8) (by omega))] at ev109
                  refine lv_if_eq (tgt := 263) hx hb dX7_look_243 (by decide) (fun c110 => ?_) (fun c110 => ?_)
                  · skip
                    have kn111 := ev109.symm.trans c110
                    exact W.vret hx hb hr (fun t ht hW => ⟨⟨S108, rfl, ⟨hst, hI⟩, by rw [ht]; exact hP, va_K.moved hW.alike hK, hD⟩, hS.F ht⟩) hS.2.2 dX7_look_263
                  · skip
                    refine lv_aload_n hx hb dX7_look_246 rfl (lv_at hl 1 rfl) ?_
                    refine zget (ci := 7) (C := RX7) (T := TX7) (N := 42) hx hb hts hi7 hown hK hP hM.1 rfl rfl 23 (by decide) (hts (.fieldLink RX7 74 "LinClusterModel" "ones" "[I") (by decide +kernel)) (fun _ h9 => h9) (v := .ref (ad 23)) (congrArg (fun z => some (va_rf z)) (((hM.eq hst.1).2.1 23 (by decide)).1)) dX7_look_247 ?_
                    refine lv_iload_n hx hb dX7_look_250 rfl (lv_at hl 2 rfl) ?_
                    refine ziald hx hb hK hP (hM.2.1 23 (by decide)).2.1 (show G.2.2 (ad 23) = 8 from (hM.2.1 23 (by decide)).2.2) (vp_in_nI (n := n8) (N := 8) (by omega) (by omega)) dX7_look_251 ?_
                    refine lv_topi (fun v112 ev112 => ?_)
                    rw [(nI_clamp (n := n8) (by omega))] at ev112
                    refine lv_sipush (v := 3000) hx hb dX7_look_252 (by decide) ?_
                    refine lv_icmp_ne (tgt := 263) hx hb dX7_look_255 (by decide) (fun c113 => ?_) (fun c113 => ?_)
                    · skip
                      exact W.vret hx hb hr (fun t ht hW => ⟨⟨S108, rfl, ⟨hst, hI⟩, by rw [ht]; exact hP, va_K.moved hW.alike hK, hD⟩, hS.F ht⟩) hS.2.2 dX7_look_263
                    · skip
                      have kn114 := ev112.symm.trans c113
                      refine lv_aload_n hx hb dX7_look_258 rfl (lv_at hl 1 rfl) ?_
                      refine lv_iload_n hx hb dX7_look_259 rfl (lv_at hl 2 rfl) ?_
                      refine zcallv (va_runV (As := [.int (nI n8)]) (rest := []) ⟨hx, hb, hml, hown, hts⟩ (c_X7_sleep l dC dI cy G S108 H.size mo ad n8 (hM.eq hst.1) hI (by omega)) (cwV 1 hts gX7_look_X7_sleep rfl rfl rfl (by decide +kernel) ⟨Nat.le_of_ble_eq_true rfl, Nat.le_of_ble_eq_true rfl⟩) (zpreV hK hP hD hN (zrecv7 hK hP hM.1)) rfl rfl hl.1 rfl (lv_room (Nat.le_of_ble_eq_true rfl)) dX7_look_260 ⟨Nat.le_of_ble_eq_true rfl, Nat.le_of_ble_eq_true rfl⟩) hS hD hA (fun S116 H locs hr115 hP hD hS => ?_)
                      have hst := hst.trans (hr115.1.mono (by decide) (by decide))
                      have hI := hr115.2
                      have kn117 := (congrFun (hr115.1.2.1 23 (by decide) (by decide)) n8).trans kn114
                      exact W.vret hx hb hr (fun t ht hW => ⟨⟨S116, rfl, ⟨hst, hI⟩, by rw [ht]; exact hP, va_K.moved hW.alike hK, hD⟩, hS.F ht⟩) hS.2.2 dX7_look_263
              · skip
                have kn118 := ev92.symm.trans c93
                refine lv_aload_n hx hb dX7_look_212 rfl (lv_at hl 1 rfl) ?_
                refine lv_iload_n hx hb dX7_look_213 rfl (lv_at hl 2 rfl) ?_
                refine lv_iload_n hx hb dX7_look_214 rfl (lv_at hl 3 rfl) ?_
                refine zcallv (va_runV (As := [.int (nI n8), .int v]) (rest := []) ⟨hx, hb, hml, hown, hts⟩ (c_X7_saying l dC dI cy G (zpi (zpi S (ad 22) n8 0) (ad 23) n8 v83) H.size mo ad n8 v (hM.eq hst.1) hI (by omega) kn118) (cwV 2 hts gX7_look_X7_saying rfl rfl rfl (by decide +kernel) ⟨Nat.le_of_ble_eq_true rfl, Nat.le_of_ble_eq_true rfl⟩) (zpreV hK hP hD hN (zrecv7 hK hP hM.1)) rfl rfl hl.1 rfl (lv_room (Nat.le_of_ble_eq_true rfl)) dX7_look_215 ⟨Nat.le_of_ble_eq_true rfl, Nat.le_of_ble_eq_true rfl⟩) hS hD hA (fun S120 H locs hr119 hP hD hS => ?_)
                have hst := hst.trans (hr119.1.mono (by decide) (by decide))
                have hI := hr119.2
                refine lv_goto (tgt := 237) hx hb dX7_look_218 (by decide) ?_
                refine lv_aload_n hx hb dX7_look_237 rfl (lv_at hl 1 rfl) ?_
                refine zget (ci := 7) (C := RX7) (T := TX7) (N := 42) hx hb hts hi7 hown hK hP hM.1 rfl rfl 16 (by decide) (hts (.fieldLink RX7 53 "LinClusterModel" "at" "[I") (by decide +kernel)) (fun _ h9 => h9) (v := .ref (ad 16)) (congrArg (fun z => some (va_rf z)) (((hM.eq hst.1).2.1 16 (by decide)).1)) dX7_look_238 ?_
                refine lv_iload_n hx hb dX7_look_241 rfl (lv_at hl 2 rfl) ?_
                refine ziald hx hb hK hP (hM.2.1 16 (by decide)).2.1 (show G.2.2 (ad 16) = 8 from (hM.2.1 16 (by decide)).2.2) (vp_in_nI (n := n8) (N := 8) (by omega) (by omega)) dX7_look_242 ?_
                refine lv_topi (fun v121 ev121 => ?_)
                rw [(nI_clamp (n := n8) (by omega))] at ev121
                refine lv_if_eq (tgt := 263) hx hb dX7_look_243 (by decide) (fun c122 => ?_) (fun c122 => ?_)
                · skip
                  have kn123 := ev121.symm.trans c122
                  exact W.vret hx hb hr (fun t ht hW => ⟨⟨S120, rfl, ⟨hst, hI⟩, by rw [ht]; exact hP, va_K.moved hW.alike hK, hD⟩, hS.F ht⟩) hS.2.2 dX7_look_263
                · skip
                  refine lv_aload_n hx hb dX7_look_246 rfl (lv_at hl 1 rfl) ?_
                  refine zget (ci := 7) (C := RX7) (T := TX7) (N := 42) hx hb hts hi7 hown hK hP hM.1 rfl rfl 23 (by decide) (hts (.fieldLink RX7 74 "LinClusterModel" "ones" "[I") (by decide +kernel)) (fun _ h9 => h9) (v := .ref (ad 23)) (congrArg (fun z => some (va_rf z)) (((hM.eq hst.1).2.1 23 (by decide)).1)) dX7_look_247 ?_
                  refine lv_iload_n hx hb dX7_look_250 rfl (lv_at hl 2 rfl) ?_
                  refine ziald hx hb hK hP (hM.2.1 23 (by decide)).2.1 (show G.2.2 (ad 23) = 8 from (hM.2.1 23 (by decide)).2.2) (vp_in_nI (n := n8) (N := 8) (by omega) (by omega)) dX7_look_251 ?_
                  refine lv_topi (fun v124 ev124 => ?_)
                  rw [(nI_clamp (n := n8) (by omega))] at ev124
                  refine lv_sipush (v := 3000) hx hb dX7_look_252 (by decide) ?_
                  refine lv_icmp_ne (tgt := 263) hx hb dX7_look_255 (by decide) (fun c125 => ?_) (fun c125 => ?_)
                  · skip
                    exact W.vret hx hb hr (fun t ht hW => ⟨⟨S120, rfl, ⟨hst, hI⟩, by rw [ht]; exact hP, va_K.moved hW.alike hK, hD⟩, hS.F ht⟩) hS.2.2 dX7_look_263
                  · skip
                    have kn126 := ev124.symm.trans c125
                    refine lv_aload_n hx hb dX7_look_258 rfl (lv_at hl 1 rfl) ?_
                    refine lv_iload_n hx hb dX7_look_259 rfl (lv_at hl 2 rfl) ?_
                    refine zcallv (va_runV (As := [.int (nI n8)]) (rest := []) ⟨hx, hb, hml, hown, hts⟩ (c_X7_sleep l dC dI cy G S120 H.size mo ad n8 (hM.eq hst.1) hI (by omega)) (cwV 1 hts gX7_look_X7_sleep rfl rfl rfl (by decide +kernel) ⟨Nat.le_of_ble_eq_true rfl, Nat.le_of_ble_eq_true rfl⟩) (zpreV hK hP hD hN (zrecv7 hK hP hM.1)) rfl rfl hl.1 rfl (lv_room (Nat.le_of_ble_eq_true rfl)) dX7_look_260 ⟨Nat.le_of_ble_eq_true rfl, Nat.le_of_ble_eq_true rfl⟩) hS hD hA (fun S128 H locs hr127 hP hD hS => ?_)
                    have hst := hst.trans (hr127.1.mono (by decide) (by decide))
                    have hI := hr127.2
                    have kn129 := (congrFun (hr127.1.2.1 23 (by decide) (by decide)) n8).trans kn126
                    exact W.vret hx hb hr (fun t ht hW => ⟨⟨S128, rfl, ⟨hst, hI⟩, by rw [ht]; exact hP, va_K.moved hW.alike hK, hD⟩, hS.F ht⟩) hS.2.2 dX7_look_263
            · skip
              have kn130 := ev90.symm.trans c91
              refine lv_aload_n hx hb dX7_look_193 rfl (lv_at hl 1 rfl) ?_
              refine lv_iload_n hx hb dX7_look_194 rfl (lv_at hl 2 rfl) ?_
              refine lv_iload_n hx hb dX7_look_195 rfl (lv_at hl 3 rfl) ?_
              refine zcallv (va_runV (As := [.int (nI n8), .int v]) (rest := []) ⟨hx, hb, hml, hown, hts⟩ (c_X7_header l dC dI cy G (zpi (zpi S (ad 22) n8 0) (ad 23) n8 v83) H.size mo ad n8 v (hM.eq hst.1) hI (by omega) kn130) (cwV 2 hts gX7_look_X7_header rfl rfl rfl (by decide +kernel) ⟨Nat.le_of_ble_eq_true rfl, Nat.le_of_ble_eq_true rfl⟩) (zpreV hK hP hD hN (zrecv7 hK hP hM.1)) rfl rfl hl.1 rfl (lv_room (Nat.le_of_ble_eq_true rfl)) dX7_look_196 ⟨Nat.le_of_ble_eq_true rfl, Nat.le_of_ble_eq_true rfl⟩) hS hD hA (fun S132 H locs hr131 hP hD hS => ?_)
              have hst := hst.trans (hr131.1.mono (by decide) (by decide))
              have hI := hr131.2
              refine lv_goto (tgt := 237) hx hb dX7_look_199 (by decide) ?_
              refine lv_aload_n hx hb dX7_look_237 rfl (lv_at hl 1 rfl) ?_
              refine zget (ci := 7) (C := RX7) (T := TX7) (N := 42) hx hb hts hi7 hown hK hP hM.1 rfl rfl 16 (by decide) (hts (.fieldLink RX7 53 "LinClusterModel" "at" "[I") (by decide +kernel)) (fun _ h9 => h9) (v := .ref (ad 16)) (congrArg (fun z => some (va_rf z)) (((hM.eq hst.1).2.1 16 (by decide)).1)) dX7_look_238 ?_
              refine lv_iload_n hx hb dX7_look_241 rfl (lv_at hl 2 rfl) ?_
              refine ziald hx hb hK hP (hM.2.1 16 (by decide)).2.1 (show G.2.2 (ad 16) = 8 from (hM.2.1 16 (by decide)).2.2) (vp_in_nI (n := n8) (N := 8) (by omega) (by omega)) dX7_look_242 ?_
              refine lv_topi (fun v133 ev133 => ?_)
              rw [(nI_clamp (n := n8) (by omega))] at ev133
              refine lv_if_eq (tgt := 263) hx hb dX7_look_243 (by decide) (fun c134 => ?_) (fun c134 => ?_)
              · skip
                have kn135 := ev133.symm.trans c134
                exact W.vret hx hb hr (fun t ht hW => ⟨⟨S132, rfl, ⟨hst, hI⟩, by rw [ht]; exact hP, va_K.moved hW.alike hK, hD⟩, hS.F ht⟩) hS.2.2 dX7_look_263
              · skip
                refine lv_aload_n hx hb dX7_look_246 rfl (lv_at hl 1 rfl) ?_
                refine zget (ci := 7) (C := RX7) (T := TX7) (N := 42) hx hb hts hi7 hown hK hP hM.1 rfl rfl 23 (by decide) (hts (.fieldLink RX7 74 "LinClusterModel" "ones" "[I") (by decide +kernel)) (fun _ h9 => h9) (v := .ref (ad 23)) (congrArg (fun z => some (va_rf z)) (((hM.eq hst.1).2.1 23 (by decide)).1)) dX7_look_247 ?_
                refine lv_iload_n hx hb dX7_look_250 rfl (lv_at hl 2 rfl) ?_
                refine ziald hx hb hK hP (hM.2.1 23 (by decide)).2.1 (show G.2.2 (ad 23) = 8 from (hM.2.1 23 (by decide)).2.2) (vp_in_nI (n := n8) (N := 8) (by omega) (by omega)) dX7_look_251 ?_
                refine lv_topi (fun v136 ev136 => ?_)
                rw [(nI_clamp (n := n8) (by omega))] at ev136
                refine lv_sipush (v := 3000) hx hb dX7_look_252 (by decide) ?_
                refine lv_icmp_ne (tgt := 263) hx hb dX7_look_255 (by decide) (fun c137 => ?_) (fun c137 => ?_)
                · skip
                  exact W.vret hx hb hr (fun t ht hW => ⟨⟨S132, rfl, ⟨hst, hI⟩, by rw [ht]; exact hP, va_K.moved hW.alike hK, hD⟩, hS.F ht⟩) hS.2.2 dX7_look_263
                · skip
                  have kn138 := ev136.symm.trans c137
                  refine lv_aload_n hx hb dX7_look_258 rfl (lv_at hl 1 rfl) ?_
                  refine lv_iload_n hx hb dX7_look_259 rfl (lv_at hl 2 rfl) ?_
                  refine zcallv (va_runV (As := [.int (nI n8)]) (rest := []) ⟨hx, hb, hml, hown, hts⟩ (c_X7_sleep l dC dI cy G S132 H.size mo ad n8 (hM.eq hst.1) hI (by omega)) (cwV 1 hts gX7_look_X7_sleep rfl rfl rfl (by decide +kernel) ⟨Nat.le_of_ble_eq_true rfl, Nat.le_of_ble_eq_true rfl⟩) (zpreV hK hP hD hN (zrecv7 hK hP hM.1)) rfl rfl hl.1 rfl (lv_room (Nat.le_of_ble_eq_true rfl)) dX7_look_260 ⟨Nat.le_of_ble_eq_true rfl, Nat.le_of_ble_eq_true rfl⟩) hS hD hA (fun S140 H locs hr139 hP hD hS => ?_)
                  have hst := hst.trans (hr139.1.mono (by decide) (by decide))
                  have hI := hr139.2
                  have kn141 := (congrFun (hr139.1.2.1 23 (by decide) (by decide)) n8).trans kn138
                  exact W.vret hx hb hr (fun t ht hW => ⟨⟨S140, rfl, ⟨hst, hI⟩, by rw [ht]; exact hP, va_K.moved hW.alike hK, hD⟩, hS.F ht⟩) hS.2.2 dX7_look_263
          · skip
            have kn142 := ev88.symm.trans c89
            refine lv_iload_n hx hb dX7_look_154 rfl (lv_at hl 3 rfl) ?_
            refine lv_iconst (v := 1) hx hb dX7_look_155 (by decide) ?_
            refine lv_icmp_ne (tgt := 237) hx hb dX7_look_156 (by decide) (fun c143 => ?_) (fun c143 => ?_)
            · skip
              refine lv_aload_n hx hb dX7_look_237 rfl (lv_at hl 1 rfl) ?_
              refine zget (ci := 7) (C := RX7) (T := TX7) (N := 42) hx hb hts hi7 hown hK hP hM.1 rfl rfl 16 (by decide) (hts (.fieldLink RX7 53 "LinClusterModel" "at" "[I") (by decide +kernel)) (fun _ h9 => h9) (v := .ref (ad 16)) (congrArg (fun z => some (va_rf z)) (((hM.eq hst.1).2.1 16 (by decide)).1)) dX7_look_238 ?_
              refine lv_iload_n hx hb dX7_look_241 rfl (lv_at hl 2 rfl) ?_
              refine ziald hx hb hK hP (hM.2.1 16 (by decide)).2.1 (show G.2.2 (ad 16) = 8 from (hM.2.1 16 (by decide)).2.2) (vp_in_nI (n := n8) (N := 8) (by omega) (by omega)) dX7_look_242 ?_
              refine lv_topi (fun v144 ev144 => ?_)
              rw [(nI_clamp (n := n8) (by omega))] at ev144
              obtain rfl : v144 = 2 := ev144.trans kn142
              refine lv_if_eq (tgt := 263) hx hb dX7_look_243 (by decide) (fun c145 => ?_) (fun c145 => ?_)
              · exact absurd c145 (by decide)
              · skip
                refine lv_aload_n hx hb dX7_look_246 rfl (lv_at hl 1 rfl) ?_
                refine zget (ci := 7) (C := RX7) (T := TX7) (N := 42) hx hb hts hi7 hown hK hP hM.1 rfl rfl 23 (by decide) (hts (.fieldLink RX7 74 "LinClusterModel" "ones" "[I") (by decide +kernel)) (fun _ h9 => h9) (v := .ref (ad 23)) (congrArg (fun z => some (va_rf z)) (((hM.eq hst.1).2.1 23 (by decide)).1)) dX7_look_247 ?_
                refine lv_iload_n hx hb dX7_look_250 rfl (lv_at hl 2 rfl) ?_
                refine ziald hx hb hK hP (hM.2.1 23 (by decide)).2.1 (show G.2.2 (ad 23) = 8 from (hM.2.1 23 (by decide)).2.2) (vp_in_nI (n := n8) (N := 8) (by omega) (by omega)) dX7_look_251 ?_
                refine lv_topi (fun v146 ev146 => ?_)
                rw [(nI_clamp (n := n8) (by omega))] at ev146
                refine lv_sipush (v := 3000) hx hb dX7_look_252 (by decide) ?_
                refine lv_icmp_ne (tgt := 263) hx hb dX7_look_255 (by decide) (fun c147 => ?_) (fun c147 => ?_)
                · skip
                  exact W.vret hx hb hr (fun t ht hW => ⟨⟨(zpi (zpi S (ad 22) n8 0) (ad 23) n8 v83), rfl, ⟨hst, hI⟩, by rw [ht]; exact hP, va_K.moved hW.alike hK, hD⟩, hS.F ht⟩) hS.2.2 dX7_look_263
                · skip
                  have kn148 := ev146.symm.trans c147
                  refine lv_aload_n hx hb dX7_look_258 rfl (lv_at hl 1 rfl) ?_
                  refine lv_iload_n hx hb dX7_look_259 rfl (lv_at hl 2 rfl) ?_
                  refine zcallv (va_runV (As := [.int (nI n8)]) (rest := []) ⟨hx, hb, hml, hown, hts⟩ (c_X7_sleep l dC dI cy G (zpi (zpi S (ad 22) n8 0) (ad 23) n8 v83) H.size mo ad n8 (hM.eq hst.1) hI (by omega)) (cwV 1 hts gX7_look_X7_sleep rfl rfl rfl (by decide +kernel) ⟨Nat.le_of_ble_eq_true rfl, Nat.le_of_ble_eq_true rfl⟩) (zpreV hK hP hD hN (zrecv7 hK hP hM.1)) rfl rfl hl.1 rfl (lv_room (Nat.le_of_ble_eq_true rfl)) dX7_look_260 ⟨Nat.le_of_ble_eq_true rfl, Nat.le_of_ble_eq_true rfl⟩) hS hD hA (fun S150 H locs hr149 hP hD hS => ?_)
                  have hst := hst.trans (hr149.1.mono (by decide) (by decide))
                  have hI := hr149.2
                  have kn151 := (congrFun (hr149.1.2.1 22 (by decide) (by decide)) n8).trans kn84
                  have kn152 := (congrFun (hr149.1.2.1 23 (by decide) (by decide)) n8).trans kn148
                  exact W.vret hx hb hr (fun t ht hW => ⟨⟨S150, rfl, ⟨hst, hI⟩, by rw [ht]; exact hP, va_K.moved hW.alike hK, hD⟩, hS.F ht⟩) hS.2.2 dX7_look_263
            · skip
              refine lv_aload_n hx hb dX7_look_159 rfl (lv_at hl 1 rfl) ?_
              refine zget (ci := 7) (C := RX7) (T := TX7) (N := 42) hx hb hts hi7 hown hK hP hM.1 rfl rfl 16 (by decide) (hts (.fieldLink RX7 53 "LinClusterModel" "at" "[I") (by decide +kernel)) (fun _ h9 => h9) (v := .ref (ad 16)) (congrArg (fun z => some (va_rf z)) (((hM.eq hst.1).2.1 16 (by decide)).1)) dX7_look_160 ?_
              refine lv_iload_n hx hb dX7_look_163 rfl (lv_at hl 2 rfl) ?_
              refine lv_iconst (v := 3) hx hb dX7_look_164 (by decide) ?_
              refine ziast (x := 3) hx hb hK hP hD hS (hM.2.1 16 (by decide)).2.1 (show G.2.2 (ad 16) = 8 from (hM.2.1 16 (by decide)).2.2) (vp_in_nI (n := n8) (N := 8) (by omega) (by omega)) dX7_look_165 (fun H locs hP hD hS => ?_)
              rw [(nI_clamp (n := n8) (by omega))] at hP hD
              have hst := zC.pa hM hst (k := 16) (by decide) (by decide) n8 3
              have kn153 := zpi_o hM (zpi (zpi S (ad 22) n8 0) (ad 23) n8 v83) (i := 22) (k := 16) (by decide) (by decide) (by decide) n8 3 kn84
              have kn154 := zpi_o hM (zpi (zpi S (ad 22) n8 0) (ad 23) n8 v83) (i := 23) (k := 16) (by decide) (by decide) (by decide) n8 3 kn85
              have hI := hI.at hM hn8 (v := 3) (by decide) (by decide)
              have kn155 := zpi_s (zpi (zpi S (ad 22) n8 0) (ad 23) n8 v83) (ad 16) n8 3
              refine lv_aload_n hx hb dX7_look_166 rfl (lv_at hl 1 rfl) ?_
              refine zget (ci := 7) (C := RX7) (T := TX7) (N := 42) hx hb hts hi7 hown hK hP hM.1 rfl rfl 27 (by decide) (hts (.fieldLink RX7 86 "LinClusterModel" "characters" "[I") (by decide +kernel)) (fun _ h9 => h9) (v := .ref (ad 27)) (congrArg (fun z => some (va_rf z)) (((hM.eq hst.1).2.1 27 (by decide)).1)) dX7_look_167 ?_
              refine lv_iload_n hx hb dX7_look_170 rfl (lv_at hl 2 rfl) ?_
              refine lv_iconst (v := 0) hx hb dX7_look_171 (by decide) ?_
              refine ziast (x := 0) hx hb hK hP hD hS (hM.2.1 27 (by decide)).2.1 (show G.2.2 (ad 27) = 8 from (hM.2.1 27 (by decide)).2.2) (vp_in_nI (n := n8) (N := 8) (by omega) (by omega)) dX7_look_172 (fun H locs hP hD hS => ?_)
              rw [(nI_clamp (n := n8) (by omega))] at hP hD
              have hst := zC.pa hM hst (k := 27) (by decide) (by decide) n8 0
              have kn156 := zpi_o hM (zpi (zpi (zpi S (ad 22) n8 0) (ad 23) n8 v83) (ad 16) n8 3) (i := 22) (k := 27) (by decide) (by decide) (by decide) n8 0 kn153
              have kn157 := zpi_o hM (zpi (zpi (zpi S (ad 22) n8 0) (ad 23) n8 v83) (ad 16) n8 3) (i := 23) (k := 27) (by decide) (by decide) (by decide) n8 0 kn154
              have kn158 := zpi_o hM (zpi (zpi (zpi S (ad 22) n8 0) (ad 23) n8 v83) (ad 16) n8 3) (i := 16) (k := 27) (by decide) (by decide) (by decide) n8 0 kn155
              have hI := hI.ix hn8
              have hI := hI.ch hM 0
              have kn159 := zpi_s (zpi (zpi (zpi S (ad 22) n8 0) (ad 23) n8 v83) (ad 16) n8 3) (ad 27) n8 0
              have hI := hI.idle (by rw [kn158]; decide) (by rw [kn158]; decide)
              refine lv_aload_n hx hb dX7_look_173 rfl (lv_at hl 1 rfl) ?_
              refine zget (ci := 7) (C := RX7) (T := TX7) (N := 42) hx hb hts hi7 hown hK hP hM.1 rfl rfl 25 (by decide) (hts (.fieldLink RX7 80 "LinClusterModel" "bitsSoFar" "[I") (by decide +kernel)) (fun _ h9 => h9) (v := .ref (ad 25)) (congrArg (fun z => some (va_rf z)) (((hM.eq hst.1).2.1 25 (by decide)).1)) dX7_look_174 ?_
              refine lv_iload_n hx hb dX7_look_177 rfl (lv_at hl 2 rfl) ?_
              refine lv_iconst (v := 0) hx hb dX7_look_178 (by decide) ?_
              refine ziast (x := 0) hx hb hK hP hD hS (hM.2.1 25 (by decide)).2.1 (show G.2.2 (ad 25) = 8 from (hM.2.1 25 (by decide)).2.2) (vp_in_nI (n := n8) (N := 8) (by omega) (by omega)) dX7_look_179 (fun H locs hP hD hS => ?_)
              rw [(nI_clamp (n := n8) (by omega))] at hP hD
              have hst := zC.pa hM hst (k := 25) (by decide) (by decide) n8 0
              have kn160 := zpi_o hM (zpi (zpi (zpi (zpi S (ad 22) n8 0) (ad 23) n8 v83) (ad 16) n8 3) (ad 27) n8 0) (i := 22) (k := 25) (by decide) (by decide) (by decide) n8 0 kn156
              have kn161 := zpi_o hM (zpi (zpi (zpi (zpi S (ad 22) n8 0) (ad 23) n8 v83) (ad 16) n8 3) (ad 27) n8 0) (i := 23) (k := 25) (by decide) (by decide) (by decide) n8 0 kn157
              have kn162 := zpi_o hM (zpi (zpi (zpi (zpi S (ad 22) n8 0) (ad 23) n8 v83) (ad 16) n8 3) (ad 27) n8 0) (i := 16) (k := 25) (by decide) (by decide) (by decide) n8 0 kn158
              have kn163 := zpi_o hM (zpi (zpi (zpi (zpi S (ad 22) n8 0) (ad 23) n8 v83) (ad 16) n8 3) (ad 27) n8 0) (i := 27) (k := 25) (by decide) (by decide) (by decide) n8 0 kn159
              have hI := hI.free hM (k := 25) (by decide) (by decide) n8 0
              have kn164 := zpi_s (zpi (zpi (zpi (zpi S (ad 22) n8 0) (ad 23) n8 v83) (ad 16) n8 3) (ad 27) n8 0) (ad 25) n8 0
              refine lv_goto (tgt := 237) hx hb dX7_look_180 (by decide) ?_
              refine lv_aload_n hx hb dX7_look_237 rfl (lv_at hl 1 rfl) ?_
              refine zget (ci := 7) (C := RX7) (T := TX7) (N := 42) hx hb hts hi7 hown hK hP hM.1 rfl rfl 16 (by decide) (hts (.fieldLink RX7 53 "LinClusterModel" "at" "[I") (by decide +kernel)) (fun _ h9 => h9) (v := .ref (ad 16)) (congrArg (fun z => some (va_rf z)) (((hM.eq hst.1).2.1 16 (by decide)).1)) dX7_look_238 ?_
              refine lv_iload_n hx hb dX7_look_241 rfl (lv_at hl 2 rfl) ?_
              refine ziald hx hb hK hP (hM.2.1 16 (by decide)).2.1 (show G.2.2 (ad 16) = 8 from (hM.2.1 16 (by decide)).2.2) (vp_in_nI (n := n8) (N := 8) (by omega) (by omega)) dX7_look_242 ?_
              refine lv_topi (fun v165 ev165 => ?_)
              rw [(nI_clamp (n := n8) (by omega))] at ev165
              obtain rfl : v165 = 3 := ev165.trans kn162
              refine lv_if_eq (tgt := 263) hx hb dX7_look_243 (by decide) (fun c166 => ?_) (fun c166 => ?_)
              · exact absurd c166 (by decide)
              · skip
                refine lv_aload_n hx hb dX7_look_246 rfl (lv_at hl 1 rfl) ?_
                refine zget (ci := 7) (C := RX7) (T := TX7) (N := 42) hx hb hts hi7 hown hK hP hM.1 rfl rfl 23 (by decide) (hts (.fieldLink RX7 74 "LinClusterModel" "ones" "[I") (by decide +kernel)) (fun _ h9 => h9) (v := .ref (ad 23)) (congrArg (fun z => some (va_rf z)) (((hM.eq hst.1).2.1 23 (by decide)).1)) dX7_look_247 ?_
                refine lv_iload_n hx hb dX7_look_250 rfl (lv_at hl 2 rfl) ?_
                refine ziald hx hb hK hP (hM.2.1 23 (by decide)).2.1 (show G.2.2 (ad 23) = 8 from (hM.2.1 23 (by decide)).2.2) (vp_in_nI (n := n8) (N := 8) (by omega) (by omega)) dX7_look_251 ?_
                refine lv_topi (fun v167 ev167 => ?_)
                rw [(nI_clamp (n := n8) (by omega))] at ev167
                refine lv_sipush (v := 3000) hx hb dX7_look_252 (by decide) ?_
                refine lv_icmp_ne (tgt := 263) hx hb dX7_look_255 (by decide) (fun c168 => ?_) (fun c168 => ?_)
                · skip
                  exact W.vret hx hb hr (fun t ht hW => ⟨⟨(zpi (zpi (zpi (zpi (zpi S (ad 22) n8 0) (ad 23) n8 v83) (ad 16) n8 3) (ad 27) n8 0) (ad 25) n8 0), rfl, ⟨hst, hI⟩, by rw [ht]; exact hP, va_K.moved hW.alike hK, hD⟩, hS.F ht⟩) hS.2.2 dX7_look_263
                · skip
                  have kn169 := ev167.symm.trans c168
                  refine lv_aload_n hx hb dX7_look_258 rfl (lv_at hl 1 rfl) ?_
                  refine lv_iload_n hx hb dX7_look_259 rfl (lv_at hl 2 rfl) ?_
                  refine zcallv (va_runV (As := [.int (nI n8)]) (rest := []) ⟨hx, hb, hml, hown, hts⟩ (c_X7_sleep l dC dI cy G (zpi (zpi (zpi (zpi (zpi S (ad 22) n8 0) (ad 23) n8 v83) (ad 16) n8 3) (ad 27) n8 0) (ad 25) n8 0) H.size mo ad n8 (hM.eq hst.1) hI (by omega)) (cwV 1 hts gX7_look_X7_sleep rfl rfl rfl (by decide +kernel) ⟨Nat.le_of_ble_eq_true rfl, Nat.le_of_ble_eq_true rfl⟩) (zpreV hK hP hD hN (zrecv7 hK hP hM.1)) rfl rfl hl.1 rfl (lv_room (Nat.le_of_ble_eq_true rfl)) dX7_look_260 ⟨Nat.le_of_ble_eq_true rfl, Nat.le_of_ble_eq_true rfl⟩) hS hD hA (fun S171 H locs hr170 hP hD hS => ?_)
                  have hst := hst.trans (hr170.1.mono (by decide) (by decide))
                  have hI := hr170.2
                  have kn172 := (congrFun (hr170.1.2.1 22 (by decide) (by decide)) n8).trans kn160
                  have kn173 := (congrFun (hr170.1.2.1 23 (by decide) (by decide)) n8).trans kn169
                  have kn174 := (congrFun (hr170.1.2.1 27 (by decide) (by decide)) n8).trans kn163
                  have kn175 := (congrFun (hr170.1.2.1 25 (by decide) (by decide)) n8).trans kn164
                  exact W.vret hx hb hr (fun t ht hW => ⟨⟨S171, rfl, ⟨hst, hI⟩, by rw [ht]; exact hP, va_K.moved hW.alike hK, hD⟩, hS.F ht⟩) hS.2.2 dX7_look_263
        · exact absurd c87 (by decide)
    · skip
      have kn176 := ev4.symm.trans c5
      refine lv_iload_n hx hb dX7_look_38 rfl (lv_at hl 3 rfl) ?_
      refine lv_iconst (v := 1) hx hb dX7_look_39 (by decide) ?_
      refine lv_icmp_ne (tgt := 84) hx hb dX7_look_40 (by decide) (fun c177 => ?_) (fun c177 => ?_)
      · skip
        exact W.vret hx hb hr (fun t ht hW => ⟨⟨(zpi S (ad 22) n8 0), rfl, ⟨hst, hI⟩, by rw [ht]; exact hP, va_K.moved hW.alike hK, hD⟩, hS.F ht⟩) hS.2.2 dX7_look_84
      · skip
        refine lv_iload_n hx hb dX7_look_43 rfl (lv_at hl 0 rfl) ?_
        refine lv_iconst (v := 5) hx hb dX7_look_44 (by decide) ?_
        refine lv_icmp_lt (tgt := 84) hx hb dX7_look_45 (by decide) (fun c178 => ?_) (fun c178 => ?_)
        · skip
          exact W.vret hx hb hr (fun t ht hW => ⟨⟨(zpi S (ad 22) n8 0), rfl, ⟨hst, hI⟩, by rw [ht]; exact hP, va_K.moved hW.alike hK, hD⟩, hS.F ht⟩) hS.2.2 dX7_look_84
        · skip
          refine lv_aload_n hx hb dX7_look_48 rfl (lv_at hl 1 rfl) ?_
          refine zget (ci := 7) (C := RX7) (T := TX7) (N := 42) hx hb hts hi7 hown hK hP hM.1 rfl rfl 16 (by decide) (hts (.fieldLink RX7 53 "LinClusterModel" "at" "[I") (by decide +kernel)) (fun _ h9 => h9) (v := .ref (ad 16)) (congrArg (fun z => some (va_rf z)) (((hM.eq hst.1).2.1 16 (by decide)).1)) dX7_look_49 ?_
          refine lv_iload_n hx hb dX7_look_52 rfl (lv_at hl 2 rfl) ?_
          refine lv_iconst (v := 1) hx hb dX7_look_53 (by decide) ?_
          refine ziast (x := 1) hx hb hK hP hD hS (hM.2.1 16 (by decide)).2.1 (show G.2.2 (ad 16) = 8 from (hM.2.1 16 (by decide)).2.2) (vp_in_nI (n := n8) (N := 8) (by omega) (by omega)) dX7_look_54 (fun H locs hP hD hS => ?_)
          rw [(nI_clamp (n := n8) (by omega))] at hP hD
          have hst := zC.pa hM hst (k := 16) (by decide) (by decide) n8 1
          have kn179 := zpi_o hM (zpi S (ad 22) n8 0) (i := 22) (k := 16) (by decide) (by decide) (by decide) n8 1 kn3
          have hI := hI.at hM hn8 (v := 1) (by decide) (by decide)
          have kn180 := zpi_s (zpi S (ad 22) n8 0) (ad 16) n8 1
          refine lv_aload_n hx hb dX7_look_55 rfl (lv_at hl 1 rfl) ?_
          refine zget (ci := 7) (C := RX7) (T := TX7) (N := 42) hx hb hts hi7 hown hK hP hM.1 rfl rfl 23 (by decide) (hts (.fieldLink RX7 74 "LinClusterModel" "ones" "[I") (by decide +kernel)) (fun _ h9 => h9) (v := .ref (ad 23)) (congrArg (fun z => some (va_rf z)) (((hM.eq hst.1).2.1 23 (by decide)).1)) dX7_look_56 ?_
          refine lv_iload_n hx hb dX7_look_59 rfl (lv_at hl 2 rfl) ?_
          refine lv_iconst (v := 0) hx hb dX7_look_60 (by decide) ?_
          refine ziast (x := 0) hx hb hK hP hD hS (hM.2.1 23 (by decide)).2.1 (show G.2.2 (ad 23) = 8 from (hM.2.1 23 (by decide)).2.2) (vp_in_nI (n := n8) (N := 8) (by omega) (by omega)) dX7_look_61 (fun H locs hP hD hS => ?_)
          rw [(nI_clamp (n := n8) (by omega))] at hP hD
          have hst := zC.pa hM hst (k := 23) (by decide) (by decide) n8 0
          have kn181 := zpi_o hM (zpi (zpi S (ad 22) n8 0) (ad 16) n8 1) (i := 22) (k := 23) (by decide) (by decide) (by decide) n8 0 kn179
          have kn182 := zpi_o hM (zpi (zpi S (ad 22) n8 0) (ad 16) n8 1) (i := 16) (k := 23) (by decide) (by decide) (by decide) n8 0 kn180
          have hI := hI.free hM (k := 23) (by decide) (by decide) n8 0
          have kn183 := zpi_s (zpi (zpi S (ad 22) n8 0) (ad 16) n8 1) (ad 23) n8 0
          refine lv_aload_n hx hb dX7_look_62 rfl (lv_at hl 1 rfl) ?_
          refine lv_iload_n hx hb dX7_look_63 rfl (lv_at hl 2 rfl) ?_
          refine lv_if_ne (tgt := 77) hx hb dX7_look_64 (by decide) (fun c184 => ?_) (fun c184 => ?_)
          · skip
            refine lv_aload_n hx hb dX7_look_77 rfl (lv_at hl 1 rfl) ?_
            refine zget (ci := 7) (C := RX7) (T := TX7) (N := 42) hx hb hts hi7 hown hK hP hM.1 rfl rfl 37 (by decide) (hts (.fieldLink RX7 161 "LinClusterModel" "startsAt" "I") (by decide +kernel)) (fun _ h9 => h9) rfl dX7_look_78 ?_
            refine lv_topi (fun v185 ev185 => ?_)
            refine zputi (ci := 7) (v := v185) (ty := .int) (C := RX7) (T := TX7) (N := 42) hx hb hts hi7 tyX7 tyX7_ok nmX7 hown hK hP hD hS hM.1 rfl rfl 37 (by decide) (hts (.fieldLink RX7 161 "LinClusterModel" "startsAt" "I") (by decide +kernel)) (fun _ h9 => h9) rfl (by decide +kernel) rfl rfl (Nat.le_of_ble_eq_true rfl) rfl dX7_look_81 (fun H locs hP hD hS => ?_)
            have hst := zC.pf hM hst (k := 37) (by decide) v185
            have kn186 := zpi_f hM (zpi (zpi (zpi S (ad 22) n8 0) (ad 16) n8 1) (ad 23) n8 0) (i := 22) (by decide) 37 v185 kn181
            have kn187 := zpi_f hM (zpi (zpi (zpi S (ad 22) n8 0) (ad 16) n8 1) (ad 23) n8 0) (i := 16) (by decide) 37 v185 kn182
            have kn188 := zpi_f hM (zpi (zpi (zpi S (ad 22) n8 0) (ad 16) n8 1) (ad 23) n8 0) (i := 23) (by decide) 37 v185 kn183
            have hI := hI.ffree hM (k := 37) (by decide) v185
            have kn189 := zpi_s (zpi (zpi (zpi S (ad 22) n8 0) (ad 16) n8 1) (ad 23) n8 0) mo 37 v185
            exact W.vret hx hb hr (fun t ht hW => ⟨⟨(zpi (zpi (zpi (zpi S (ad 22) n8 0) (ad 16) n8 1) (ad 23) n8 0) mo 37 v185), rfl, ⟨hst, hI⟩, by rw [ht]; exact hP, va_K.moved hW.alike hK, hD⟩, hS.F ht⟩) hS.2.2 dX7_look_84
          · skip
            refine lv_aload_n hx hb dX7_look_67 rfl (lv_at hl 1 rfl) ?_
            refine zget (ci := 7) (C := RX7) (T := TX7) (N := 42) hx hb hts hi7 hown hK hP hM.1 rfl rfl 33 (by decide) (hts (.fieldLink RX7 128 "LinClusterModel" "time" "I") (by decide +kernel)) (fun _ h9 => h9) rfl dX7_look_68 ?_
            refine lv_topi (fun v190 ev190 => ?_)
            refine lv_bipush (v := 51) hx hb dX7_look_71 (by decide) ?_
            refine lv_iadd hx hb dX7_look_73 ?_
            refine lv_topi (fun v191 ev191 => ?_)
            refine lv_goto (tgt := 81) hx hb dX7_look_74 (by decide) ?_
            refine zputi (ci := 7) (v := v191) (ty := .int) (C := RX7) (T := TX7) (N := 42) hx hb hts hi7 tyX7 tyX7_ok nmX7 hown hK hP hD hS hM.1 rfl rfl 37 (by decide) (hts (.fieldLink RX7 161 "LinClusterModel" "startsAt" "I") (by decide +kernel)) (fun _ h9 => h9) rfl (by decide +kernel) rfl rfl (Nat.le_of_ble_eq_true rfl) rfl dX7_look_81 (fun H locs hP hD hS => ?_)
            have hst := zC.pf hM hst (k := 37) (by decide) v191
            have kn192 := zpi_f hM (zpi (zpi (zpi S (ad 22) n8 0) (ad 16) n8 1) (ad 23) n8 0) (i := 22) (by decide) 37 v191 kn181
            have kn193 := zpi_f hM (zpi (zpi (zpi S (ad 22) n8 0) (ad 16) n8 1) (ad 23) n8 0) (i := 16) (by decide) 37 v191 kn182
            have kn194 := zpi_f hM (zpi (zpi (zpi S (ad 22) n8 0) (ad 16) n8 1) (ad 23) n8 0) (i := 23) (by decide) 37 v191 kn183
            have hI := hI.ffree hM (k := 37) (by decide) v191
            have kn195 := zpi_s (zpi (zpi (zpi S (ad 22) n8 0) (ad 16) n8 1) (ad 23) n8 0) mo 37 v191
            exact W.vret hx hb hr (fun t ht hW => ⟨⟨(zpi (zpi (zpi (zpi S (ad 22) n8 0) (ad 16) n8 1) (ad 23) n8 0) mo 37 v191), rfl, ⟨hst, hI⟩, by rw [ht]; exact hP, va_K.moved hW.alike hK, hD⟩, hS.F ht⟩) hS.2.2 dX7_look_84
  · skip
    refine lv_aload_n hx hb dX7_look_16 rfl (lv_at hl 1 rfl) ?_
    refine zget (ci := 7) (C := RX7) (T := TX7) (N := 42) hx hb hts hi7 hown hK hP hM.1 rfl rfl 22 (by decide) (hts (.fieldLink RX7 71 "LinClusterModel" "zeros" "[I") (by decide +kernel)) (fun _ h9 => h9) (v := .ref (ad 22)) (congrArg (fun z => some (va_rf z)) (((hM.eq hst.1).2.1 22 (by decide)).1)) dX7_look_17 ?_
    refine lv_iload_n hx hb dX7_look_20 rfl (lv_at hl 2 rfl) ?_
    refine ziald hx hb hK hP (hM.2.1 22 (by decide)).2.1 (show G.2.2 (ad 22) = 8 from (hM.2.1 22 (by decide)).2.2) (vp_in_nI (n := n8) (N := 8) (by omega) (by omega)) dX7_look_21 ?_
    refine lv_topi (fun v196 ev196 => ?_)
    rw [(nI_clamp (n := n8) (by omega))] at ev196
    refine lv_iconst (v := 1) hx hb dX7_look_22 (by decide) ?_
    refine lv_iadd hx hb dX7_look_23 ?_
    refine lv_topi (fun v197 ev197 => ?_)
    refine lv_goto (tgt := 28) hx hb dX7_look_24 (by decide) ?_
    refine ziast (x := v197) hx hb hK hP hD hS (hM.2.1 22 (by decide)).2.1 (show G.2.2 (ad 22) = 8 from (hM.2.1 22 (by decide)).2.2) (vp_in_nI (n := n8) (N := 8) (by omega) (by omega)) dX7_look_28 (fun H locs hP hD hS => ?_)
    rw [(nI_clamp (n := n8) (by omega))] at hP hD
    have hst := zC.pa hM hst (k := 22) (by decide) (by decide) n8 v197
    have hI := hI.free hM (k := 22) (by decide) (by decide) n8 v197
    have kn198 := zpi_s S (ad 22) n8 v197
    refine lv_aload_n hx hb dX7_look_29 rfl (lv_at hl 1 rfl) ?_
    refine zget (ci := 7) (C := RX7) (T := TX7) (N := 42) hx hb hts hi7 hown hK hP hM.1 rfl rfl 16 (by decide) (hts (.fieldLink RX7 53 "LinClusterModel" "at" "[I") (by decide +kernel)) (fun _ h9 => h9) (v := .ref (ad 16)) (congrArg (fun z => some (va_rf z)) (((hM.eq hst.1).2.1 16 (by decide)).1)) dX7_look_30 ?_
    refine lv_iload_n hx hb dX7_look_33 rfl (lv_at hl 2 rfl) ?_
    refine ziald hx hb hK hP (hM.2.1 16 (by decide)).2.1 (show G.2.2 (ad 16) = 8 from (hM.2.1 16 (by decide)).2.2) (vp_in_nI (n := n8) (N := 8) (by omega) (by omega)) dX7_look_34 ?_
    refine lv_topi (fun v199 ev199 => ?_)
    rw [(nI_clamp (n := n8) (by omega))] at ev199
    refine lv_if_ne (tgt := 85) hx hb dX7_look_35 (by decide) (fun c200 => ?_) (fun c200 => ?_)
    · skip
      refine lv_aload_n hx hb dX7_look_85 rfl (lv_at hl 1 rfl) ?_
      refine zget (ci := 7) (C := RX7) (T := TX7) (N := 42) hx hb hts hi7 hown hK hP hM.1 rfl rfl 23 (by decide) (hts (.fieldLink RX7 74 "LinClusterModel" "ones" "[I") (by decide +kernel)) (fun _ h9 => h9) (v := .ref (ad 23)) (congrArg (fun z => some (va_rf z)) (((hM.eq hst.1).2.1 23 (by decide)).1)) dX7_look_86 ?_
      refine lv_iload_n hx hb dX7_look_89 rfl (lv_at hl 2 rfl) ?_
      refine lv_iload_n hx hb dX7_look_90 rfl (lv_at hl 3 rfl) ?_
      refine lv_iconst (v := 1) hx hb dX7_look_91 (by decide) ?_
      refine lv_icmp_ne (tgt := 106) hx hb dX7_look_92 (by decide) (fun c201 => ?_) (fun c201 => ?_)
      · skip
        refine lv_iconst (v := 0) hx hb dX7_look_106 (by decide) ?_
        refine ziast (x := 0) hx hb hK hP hD hS (hM.2.1 23 (by decide)).2.1 (show G.2.2 (ad 23) = 8 from (hM.2.1 23 (by decide)).2.2) (vp_in_nI (n := n8) (N := 8) (by omega) (by omega)) dX7_look_107 (fun H locs hP hD hS => ?_)
        rw [(nI_clamp (n := n8) (by omega))] at hP hD
        have hst := zC.pa hM hst (k := 23) (by decide) (by decide) n8 0
        have kn202 := zpi_o hM (zpi S (ad 22) n8 v197) (i := 22) (k := 23) (by decide) (by decide) (by decide) n8 0 kn198
        have hI := hI.free hM (k := 23) (by decide) (by decide) n8 0
        have kn203 := zpi_s (zpi S (ad 22) n8 v197) (ad 23) n8 0
        refine lv_aload_n hx hb dX7_look_108 rfl (lv_at hl 1 rfl) ?_
        refine zget (ci := 7) (C := RX7) (T := TX7) (N := 42) hx hb hts hi7 hown hK hP hM.1 rfl rfl 22 (by decide) (hts (.fieldLink RX7 71 "LinClusterModel" "zeros" "[I") (by decide +kernel)) (fun _ h9 => h9) (v := .ref (ad 22)) (congrArg (fun z => some (va_rf z)) (((hM.eq hst.1).2.1 22 (by decide)).1)) dX7_look_109 ?_
        refine lv_iload_n hx hb dX7_look_112 rfl (lv_at hl 2 rfl) ?_
        refine ziald hx hb hK hP (hM.2.1 22 (by decide)).2.1 (show G.2.2 (ad 22) = 8 from (hM.2.1 22 (by decide)).2.2) (vp_in_nI (n := n8) (N := 8) (by omega) (by omega)) dX7_look_113 ?_
        refine lv_topi (fun v204 ev204 => ?_)
        rw [(nI_clamp (n := n8) (by omega))] at ev204
        refine lv_bipush (v := 11) hx hb dX7_look_114 (by decide) ?_
        refine lv_icmp_ne (tgt := 144) hx hb dX7_look_116 (by decide) (fun c205 => ?_) (fun c205 => ?_)
        · skip
          refine lv_aload_n hx hb dX7_look_144 rfl (lv_at hl 1 rfl) ?_
          refine zget (ci := 7) (C := RX7) (T := TX7) (N := 42) hx hb hts hi7 hown hK hP hM.1 rfl rfl 16 (by decide) (hts (.fieldLink RX7 53 "LinClusterModel" "at" "[I") (by decide +kernel)) (fun _ h9 => h9) (v := .ref (ad 16)) (congrArg (fun z => some (va_rf z)) (((hM.eq hst.1).2.1 16 (by decide)).1)) dX7_look_145 ?_
          refine lv_iload_n hx hb dX7_look_148 rfl (lv_at hl 2 rfl) ?_
          refine ziald hx hb hK hP (hM.2.1 16 (by decide)).2.1 (show G.2.2 (ad 16) = 8 from (hM.2.1 16 (by decide)).2.2) (vp_in_nI (n := n8) (N := 8) (by omega) (by omega)) dX7_look_149 ?_
          refine lv_topi (fun v206 ev206 => ?_)
          rw [(nI_clamp (n := n8) (by omega))] at ev206
          refine lv_iconst (v := 2) hx hb dX7_look_150 (by decide) ?_
          refine lv_icmp_ne (tgt := 183) hx hb dX7_look_151 (by decide) (fun c207 => ?_) (fun c207 => ?_)
          · skip
            refine lv_aload_n hx hb dX7_look_183 rfl (lv_at hl 1 rfl) ?_
            refine zget (ci := 7) (C := RX7) (T := TX7) (N := 42) hx hb hts hi7 hown hK hP hM.1 rfl rfl 16 (by decide) (hts (.fieldLink RX7 53 "LinClusterModel" "at" "[I") (by decide +kernel)) (fun _ h9 => h9) (v := .ref (ad 16)) (congrArg (fun z => some (va_rf z)) (((hM.eq hst.1).2.1 16 (by decide)).1)) dX7_look_184 ?_
            refine lv_iload_n hx hb dX7_look_187 rfl (lv_at hl 2 rfl) ?_
            refine ziald hx hb hK hP (hM.2.1 16 (by decide)).2.1 (show G.2.2 (ad 16) = 8 from (hM.2.1 16 (by decide)).2.2) (vp_in_nI (n := n8) (N := 8) (by omega) (by omega)) dX7_look_188 ?_
            refine lv_topi (fun v208 ev208 => ?_)
            rw [(nI_clamp (n := n8) (by omega))] at ev208
            refine lv_iconst (v := 3) hx hb dX7_look_189 (by decide) ?_
            refine lv_icmp_ne (tgt := 202) hx hb dX7_look_190 (by decide) (fun c209 => ?_) (fun c209 => ?_)
            · skip
              refine lv_aload_n hx hb dX7_look_202 rfl (lv_at hl 1 rfl) ?_
              refine zget (ci := 7) (C := RX7) (T := TX7) (N := 42) hx hb hts hi7 hown hK hP hM.1 rfl rfl 16 (by decide) (hts (.fieldLink RX7 53 "LinClusterModel" "at" "[I") (by decide +kernel)) (fun _ h9 => h9) (v := .ref (ad 16)) (congrArg (fun z => some (va_rf z)) (((hM.eq hst.1).2.1 16 (by decide)).1)) dX7_look_203 ?_
              refine lv_iload_n hx hb dX7_look_206 rfl (lv_at hl 2 rfl) ?_
              refine ziald hx hb hK hP (hM.2.1 16 (by decide)).2.1 (show G.2.2 (ad 16) = 8 from (hM.2.1 16 (by decide)).2.2) (vp_in_nI (n := n8) (N := 8) (by omega) (by omega)) dX7_look_207 ?_
              refine lv_topi (fun v210 ev210 => ?_)
              rw [(nI_clamp (n := n8) (by omega))] at ev210
              refine lv_iconst (v := 4) hx hb dX7_look_208 (by decide) ?_
              refine lv_icmp_ne (tgt := 221) hx hb dX7_look_209 (by decide) (fun c211 => ?_) (fun c211 => ?_)
              · skip
                refine lv_aload_n hx hb dX7_look_221 rfl (lv_at hl 1 rfl) ?_
                refine zget (ci := 7) (C := RX7) (T := TX7) (N := 42) hx hb hts hi7 hown hK hP hM.1 rfl rfl 16 (by decide) (hts (.fieldLink RX7 53 "LinClusterModel" "at" "[I") (by decide +kernel)) (fun _ h9 => h9) (v := .ref (ad 16)) (congrArg (fun z => some (va_rf z)) (((hM.eq hst.1).2.1 16 (by decide)).1)) dX7_look_222 ?_
                refine lv_iload_n hx hb dX7_look_225 rfl (lv_at hl 2 rfl) ?_
                refine ziald hx hb hK hP (hM.2.1 16 (by decide)).2.1 (show G.2.2 (ad 16) = 8 from (hM.2.1 16 (by decide)).2.2) (vp_in_nI (n := n8) (N := 8) (by omega) (by omega)) dX7_look_226 ?_
                refine lv_topi (fun v212 ev212 => ?_)
                rw [(nI_clamp (n := n8) (by omega))] at ev212
                refine lv_iconst (v := 5) hx hb dX7_look_227 (by decide) ?_
                refine lv_icmp_ne (tgt := 237) hx hb dX7_look_228 (by decide) (fun c213 => ?_) (fun c213 => ?_)
                · skip
                  refine lv_aload_n hx hb dX7_look_237 rfl (lv_at hl 1 rfl) ?_
                  refine zget (ci := 7) (C := RX7) (T := TX7) (N := 42) hx hb hts hi7 hown hK hP hM.1 rfl rfl 16 (by decide) (hts (.fieldLink RX7 53 "LinClusterModel" "at" "[I") (by decide +kernel)) (fun _ h9 => h9) (v := .ref (ad 16)) (congrArg (fun z => some (va_rf z)) (((hM.eq hst.1).2.1 16 (by decide)).1)) dX7_look_238 ?_
                  refine lv_iload_n hx hb dX7_look_241 rfl (lv_at hl 2 rfl) ?_
                  refine ziald hx hb hK hP (hM.2.1 16 (by decide)).2.1 (show G.2.2 (ad 16) = 8 from (hM.2.1 16 (by decide)).2.2) (vp_in_nI (n := n8) (N := 8) (by omega) (by omega)) dX7_look_242 ?_
                  refine lv_topi (fun v214 ev214 => ?_)
                  rw [(nI_clamp (n := n8) (by omega))] at ev214
                  refine lv_if_eq (tgt := 263) hx hb dX7_look_243 (by decide) (fun c215 => ?_) (fun c215 => ?_)
                  · skip
                    have kn216 := ev214.symm.trans c215
                    exact W.vret hx hb hr (fun t ht hW => ⟨⟨(zpi (zpi S (ad 22) n8 v197) (ad 23) n8 0), rfl, ⟨hst, hI⟩, by rw [ht]; exact hP, va_K.moved hW.alike hK, hD⟩, hS.F ht⟩) hS.2.2 dX7_look_263
                  · skip
                    refine lv_aload_n hx hb dX7_look_246 rfl (lv_at hl 1 rfl) ?_
                    refine zget (ci := 7) (C := RX7) (T := TX7) (N := 42) hx hb hts hi7 hown hK hP hM.1 rfl rfl 23 (by decide) (hts (.fieldLink RX7 74 "LinClusterModel" "ones" "[I") (by decide +kernel)) (fun _ h9 => h9) (v := .ref (ad 23)) (congrArg (fun z => some (va_rf z)) (((hM.eq hst.1).2.1 23 (by decide)).1)) dX7_look_247 ?_
                    refine lv_iload_n hx hb dX7_look_250 rfl (lv_at hl 2 rfl) ?_
                    refine ziald hx hb hK hP (hM.2.1 23 (by decide)).2.1 (show G.2.2 (ad 23) = 8 from (hM.2.1 23 (by decide)).2.2) (vp_in_nI (n := n8) (N := 8) (by omega) (by omega)) dX7_look_251 ?_
                    refine lv_topi (fun v217 ev217 => ?_)
                    rw [(nI_clamp (n := n8) (by omega))] at ev217
                    obtain rfl : v217 = 0 := ev217.trans kn203
                    refine lv_sipush (v := 3000) hx hb dX7_look_252 (by decide) ?_
                    refine lv_icmp_ne (tgt := 263) hx hb dX7_look_255 (by decide) (fun c218 => ?_) (fun c218 => ?_)
                    · skip
                      exact W.vret hx hb hr (fun t ht hW => ⟨⟨(zpi (zpi S (ad 22) n8 v197) (ad 23) n8 0), rfl, ⟨hst, hI⟩, by rw [ht]; exact hP, va_K.moved hW.alike hK, hD⟩, hS.F ht⟩) hS.2.2 dX7_look_263
                    · exact absurd c218 (by decide)
                · skip
                  have kn219 := ev212.symm.trans c213
                  refine lv_aload_n hx hb dX7_look_231 rfl (lv_at hl 1 rfl) ?_
                  refine lv_iload_n hx hb dX7_look_232 rfl (lv_at hl 2 rfl) ?_
                  refine lv_iload_n hx hb dX7_look_233 rfl (lv_at hl 3 rfl) ?_
                  refine zcallv (va_runV (As := [.int (nI n8), .int v]) (rest := []) ⟨hx, hb, hml, hown, hts⟩ (c_X7_taking l dC dI cy G (zpi (zpi S (ad 22) n8 v197) (ad 23) n8 0) H.size mo ad n8 v (hM.eq hst.1) hI (by omega) kn219) (cwV 2 hts gX7_look_X7_taking rfl rfl rfl (by decide +kernel) ⟨Nat.le_of_ble_eq_true rfl, Nat.le_of_ble_eq_true rfl⟩) (zpreV hK hP hD hN (zrecv7 hK hP hM.1)) rfl rfl hl.1 rfl (lv_room (Nat.le_of_ble_eq_true rfl)) dX7_look_234 ⟨Nat.le_of_ble_eq_true rfl, Nat.le_of_ble_eq_true rfl⟩) hS hD hA (fun S221 H locs hr220 hP hD hS => ?_)
                  have hst := hst.trans (hr220.1.mono (by decide) (by decide))
                  have hI := hr220.2
                  refine lv_aload_n hx hb dX7_look_237 rfl (lv_at hl 1 rfl) ?_
                  refine zget (ci := 7) (C := RX7) (T := TX7) (N := 42) hx hb hts hi7 hown hK hP hM.1 rfl rfl 16 (by decide) (hts (.fieldLink RX7 53 "LinClusterModel" "at" "[I") (by decide +kernel)) (fun _ h9 => h9) (v := .ref (ad 16)) (congrArg (fun z => some (va_rf z)) (((hM.eq hst.1).2.1 16 (by decide)).1)) dX7_look_238 ?_
                  refine lv_iload_n hx hb dX7_look_241 rfl (lv_at hl 2 rfl) ?_
                  refine ziald hx hb hK hP (hM.2.1 16 (by decide)).2.1 (show G.2.2 (ad 16) = 8 from (hM.2.1 16 (by decide)).2.2) (vp_in_nI (n := n8) (N := 8) (by omega) (by omega)) dX7_look_242 ?_
                  refine lv_topi (fun v222 ev222 => ?_)
                  rw [(nI_clamp (n := n8) (by omega))] at ev222
                  refine lv_if_eq (tgt := 263) hx hb dX7_look_243 (by decide) (fun c223 => ?_) (fun c223 => ?_)
                  · skip
                    have kn224 := ev222.symm.trans c223
                    exact W.vret hx hb hr (fun t ht hW => ⟨⟨S221, rfl, ⟨hst, hI⟩, by rw [ht]; exact hP, va_K.moved hW.alike hK, hD⟩, hS.F ht⟩) hS.2.2 dX7_look_263
                  · skip
                    refine lv_aload_n hx hb dX7_look_246 rfl (lv_at hl 1 rfl) ?_
                    refine zget (ci := 7) (C := RX7) (T := TX7) (N := 42) hx hb hts hi7 hown hK hP hM.1 rfl rfl 23 (by decide) (hts (.fieldLink RX7 74 "LinClusterModel" "ones" "[I") (by decide +kernel)) (fun _ h9 => h9) (v := .ref (ad 23)) (congrArg (fun z => some (va_rf z)) (((hM.eq hst.1).2.1 23 (by decide)).1)) dX7_look_247 ?_
                    refine lv_iload_n hx hb dX7_look_250 rfl (lv_at hl 2 rfl) ?_
                    refine ziald hx hb hK hP (hM.2.1 23 (by decide)).2.1 (show G.2.2 (ad 23) = 8 from (hM.2.1 23 (by decide)).2.2) (vp_in_nI (n := n8) (N := 8) (by omega) (by omega)) dX7_look_251 ?_
                    refine lv_topi (fun v225 ev225 => ?_)
                    rw [(nI_clamp (n := n8) (by omega))] at ev225
                    refine lv_sipush (v := 3000) hx hb dX7_look_252 (by decide) ?_
                    refine lv_icmp_ne (tgt := 263) hx hb dX7_look_255 (by decide) (fun c226 => ?_) (fun c226 => ?_)
                    · skip
                      exact W.vret hx hb hr (fun t ht hW => ⟨⟨S221, rfl, ⟨hst, hI⟩, by rw [ht]; exact hP, va_K.moved hW.alike hK, hD⟩, hS.F ht⟩) hS.2.2 dX7_look_263
                    · skip
                      have kn227 := ev225.symm.trans c226
                      refine lv_aload_n hx hb dX7_look_258 rfl (lv_at hl 1 rfl) ?_
                      refine lv_iload_n hx hb dX7_look_259 rfl (lv_at hl 2 rfl) ?_
                      refine zcallv (va_runV (As := [.int (nI n8)]) (rest := []) ⟨hx, hb, hml, hown, hts⟩ (c_X7_sleep l dC dI cy G S221 H.size mo ad n8 (hM.eq hst.1) hI (by omega)) (cwV 1 hts gX7_look_X7_sleep rfl rfl rfl (by decide +kernel) ⟨Nat.le_of_ble_eq_true rfl, Nat.le_of_ble_eq_true rfl⟩) (zpreV hK hP hD hN (zrecv7 hK hP hM.1)) rfl rfl hl.1 rfl (lv_room (Nat.le_of_ble_eq_true rfl)) dX7_look_260 ⟨Nat.le_of_ble_eq_true rfl, Nat.le_of_ble_eq_true rfl⟩) hS hD hA (fun S229 H locs hr228 hP hD hS => ?_)
                      have hst := hst.trans (hr228.1.mono (by decide) (by decide))
                      have hI := hr228.2
                      have kn230 := (congrFun (hr228.1.2.1 23 (by decide) (by decide)) n8).trans kn227
                      exact W.vret hx hb hr (fun t ht hW => ⟨⟨S229, rfl, ⟨hst, hI⟩, by rw [ht]; exact hP, va_K.moved hW.alike hK, hD⟩, hS.F ht⟩) hS.2.2 dX7_look_263
              · skip
                have kn231 := ev210.symm.trans c211
                refine lv_aload_n hx hb dX7_look_212 rfl (lv_at hl 1 rfl) ?_
                refine lv_iload_n hx hb dX7_look_213 rfl (lv_at hl 2 rfl) ?_
                refine lv_iload_n hx hb dX7_look_214 rfl (lv_at hl 3 rfl) ?_
                refine zcallv (va_runV (As := [.int (nI n8), .int v]) (rest := []) ⟨hx, hb, hml, hown, hts⟩ (c_X7_saying l dC dI cy G (zpi (zpi S (ad 22) n8 v197) (ad 23) n8 0) H.size mo ad n8 v (hM.eq hst.1) hI (by omega) kn231) (cwV 2 hts gX7_look_X7_saying rfl rfl rfl (by decide +kernel) ⟨Nat.le_of_ble_eq_true rfl, Nat.le_of_ble_eq_true rfl⟩) (zpreV hK hP hD hN (zrecv7 hK hP hM.1)) rfl rfl hl.1 rfl (lv_room (Nat.le_of_ble_eq_true rfl)) dX7_look_215 ⟨Nat.le_of_ble_eq_true rfl, Nat.le_of_ble_eq_true rfl⟩) hS hD hA (fun S233 H locs hr232 hP hD hS => ?_)
                have hst := hst.trans (hr232.1.mono (by decide) (by decide))
                have hI := hr232.2
                refine lv_goto (tgt := 237) hx hb dX7_look_218 (by decide) ?_
                refine lv_aload_n hx hb dX7_look_237 rfl (lv_at hl 1 rfl) ?_
                refine zget (ci := 7) (C := RX7) (T := TX7) (N := 42) hx hb hts hi7 hown hK hP hM.1 rfl rfl 16 (by decide) (hts (.fieldLink RX7 53 "LinClusterModel" "at" "[I") (by decide +kernel)) (fun _ h9 => h9) (v := .ref (ad 16)) (congrArg (fun z => some (va_rf z)) (((hM.eq hst.1).2.1 16 (by decide)).1)) dX7_look_238 ?_
                refine lv_iload_n hx hb dX7_look_241 rfl (lv_at hl 2 rfl) ?_
                refine ziald hx hb hK hP (hM.2.1 16 (by decide)).2.1 (show G.2.2 (ad 16) = 8 from (hM.2.1 16 (by decide)).2.2) (vp_in_nI (n := n8) (N := 8) (by omega) (by omega)) dX7_look_242 ?_
                refine lv_topi (fun v234 ev234 => ?_)
                rw [(nI_clamp (n := n8) (by omega))] at ev234
                refine lv_if_eq (tgt := 263) hx hb dX7_look_243 (by decide) (fun c235 => ?_) (fun c235 => ?_)
                · skip
                  have kn236 := ev234.symm.trans c235
                  exact W.vret hx hb hr (fun t ht hW => ⟨⟨S233, rfl, ⟨hst, hI⟩, by rw [ht]; exact hP, va_K.moved hW.alike hK, hD⟩, hS.F ht⟩) hS.2.2 dX7_look_263
                · skip
                  refine lv_aload_n hx hb dX7_look_246 rfl (lv_at hl 1 rfl) ?_
                  refine zget (ci := 7) (C := RX7) (T := TX7) (N := 42) hx hb hts hi7 hown hK hP hM.1 rfl rfl 23 (by decide) (hts (.fieldLink RX7 74 "LinClusterModel" "ones" "[I") (by decide +kernel)) (fun _ h9 => h9) (v := .ref (ad 23)) (congrArg (fun z => some (va_rf z)) (((hM.eq hst.1).2.1 23 (by decide)).1)) dX7_look_247 ?_
                  refine lv_iload_n hx hb dX7_look_250 rfl (lv_at hl 2 rfl) ?_
                  refine ziald hx hb hK hP (hM.2.1 23 (by decide)).2.1 (show G.2.2 (ad 23) = 8 from (hM.2.1 23 (by decide)).2.2) (vp_in_nI (n := n8) (N := 8) (by omega) (by omega)) dX7_look_251 ?_
                  refine lv_topi (fun v237 ev237 => ?_)
                  rw [(nI_clamp (n := n8) (by omega))] at ev237
                  refine lv_sipush (v := 3000) hx hb dX7_look_252 (by decide) ?_
                  refine lv_icmp_ne (tgt := 263) hx hb dX7_look_255 (by decide) (fun c238 => ?_) (fun c238 => ?_)
                  · skip
                    exact W.vret hx hb hr (fun t ht hW => ⟨⟨S233, rfl, ⟨hst, hI⟩, by rw [ht]; exact hP, va_K.moved hW.alike hK, hD⟩, hS.F ht⟩) hS.2.2 dX7_look_263
                  · skip
                    have kn239 := ev237.symm.trans c238
                    refine lv_aload_n hx hb dX7_look_258 rfl (lv_at hl 1 rfl) ?_
                    refine lv_iload_n hx hb dX7_look_259 rfl (lv_at hl 2 rfl) ?_
                    refine zcallv (va_runV (As := [.int (nI n8)]) (rest := []) ⟨hx, hb, hml, hown, hts⟩ (c_X7_sleep l dC dI cy G S233 H.size mo ad n8 (hM.eq hst.1) hI (by omega)) (cwV 1 hts gX7_look_X7_sleep rfl rfl rfl (by decide +kernel) ⟨Nat.le_of_ble_eq_true rfl, Nat.le_of_ble_eq_true rfl⟩) (zpreV hK hP hD hN (zrecv7 hK hP hM.1)) rfl rfl hl.1 rfl (lv_room (Nat.le_of_ble_eq_true rfl)) dX7_look_260 ⟨Nat.le_of_ble_eq_true rfl, Nat.le_of_ble_eq_true rfl⟩) hS hD hA (fun S241 H locs hr240 hP hD hS => ?_)
                    have hst := hst.trans (hr240.1.mono (by decide) (by decide))
                    have hI := hr240.2
                    have kn242 := (congrFun (hr240.1.2.1 23 (by decide) (by decide)) n8).trans kn239
                    exact W.vret hx hb hr (fun t ht hW => ⟨⟨S241, rfl, ⟨hst, hI⟩, by rw [ht]; exact hP, va_K.moved hW.alike hK, hD⟩, hS.F ht⟩) hS.2.2 dX7_look_263
            · skip
              have kn243 := ev208.symm.trans c209
              refine lv_aload_n hx hb dX7_look_193 rfl (lv_at hl 1 rfl) ?_
              refine lv_iload_n hx hb dX7_look_194 rfl (lv_at hl 2 rfl) ?_
              refine lv_iload_n hx hb dX7_look_195 rfl (lv_at hl 3 rfl) ?_
              refine zcallv (va_runV (As := [.int (nI n8), .int v]) (rest := []) ⟨hx, hb, hml, hown, hts⟩ (c_X7_header l dC dI cy G (zpi (zpi S (ad 22) n8 v197) (ad 23) n8 0) H.size mo ad n8 v (hM.eq hst.1) hI (by omega) kn243) (cwV 2 hts gX7_look_X7_header rfl rfl rfl (by decide +kernel) ⟨Nat.le_of_ble_eq_true rfl, Nat.le_of_ble_eq_true rfl⟩) (zpreV hK hP hD hN (zrecv7 hK hP hM.1)) rfl rfl hl.1 rfl (lv_room (Nat.le_of_ble_eq_true rfl)) dX7_look_196 ⟨Nat.le_of_ble_eq_true rfl, Nat.le_of_ble_eq_true rfl⟩) hS hD hA (fun S245 H locs hr244 hP hD hS => ?_)
              have hst := hst.trans (hr244.1.mono (by decide) (by decide))
              have hI := hr244.2
              refine lv_goto (tgt := 237) hx hb dX7_look_199 (by decide) ?_
              refine lv_aload_n hx hb dX7_look_237 rfl (lv_at hl 1 rfl) ?_
              refine zget (ci := 7) (C := RX7) (T := TX7) (N := 42) hx hb hts hi7 hown hK hP hM.1 rfl rfl 16 (by decide) (hts (.fieldLink RX7 53 "LinClusterModel" "at" "[I") (by decide +kernel)) (fun _ h9 => h9) (v := .ref (ad 16)) (congrArg (fun z => some (va_rf z)) (((hM.eq hst.1).2.1 16 (by decide)).1)) dX7_look_238 ?_
              refine lv_iload_n hx hb dX7_look_241 rfl (lv_at hl 2 rfl) ?_
              refine ziald hx hb hK hP (hM.2.1 16 (by decide)).2.1 (show G.2.2 (ad 16) = 8 from (hM.2.1 16 (by decide)).2.2) (vp_in_nI (n := n8) (N := 8) (by omega) (by omega)) dX7_look_242 ?_
              refine lv_topi (fun v246 ev246 => ?_)
              rw [(nI_clamp (n := n8) (by omega))] at ev246
              refine lv_if_eq (tgt := 263) hx hb dX7_look_243 (by decide) (fun c247 => ?_) (fun c247 => ?_)
              · skip
                have kn248 := ev246.symm.trans c247
                exact W.vret hx hb hr (fun t ht hW => ⟨⟨S245, rfl, ⟨hst, hI⟩, by rw [ht]; exact hP, va_K.moved hW.alike hK, hD⟩, hS.F ht⟩) hS.2.2 dX7_look_263
              · skip
                refine lv_aload_n hx hb dX7_look_246 rfl (lv_at hl 1 rfl) ?_
                refine zget (ci := 7) (C := RX7) (T := TX7) (N := 42) hx hb hts hi7 hown hK hP hM.1 rfl rfl 23 (by decide) (hts (.fieldLink RX7 74 "LinClusterModel" "ones" "[I") (by decide +kernel)) (fun _ h9 => h9) (v := .ref (ad 23)) (congrArg (fun z => some (va_rf z)) (((hM.eq hst.1).2.1 23 (by decide)).1)) dX7_look_247 ?_
                refine lv_iload_n hx hb dX7_look_250 rfl (lv_at hl 2 rfl) ?_
                refine ziald hx hb hK hP (hM.2.1 23 (by decide)).2.1 (show G.2.2 (ad 23) = 8 from (hM.2.1 23 (by decide)).2.2) (vp_in_nI (n := n8) (N := 8) (by omega) (by omega)) dX7_look_251 ?_
                refine lv_topi (fun v249 ev249 => ?_)
                rw [(nI_clamp (n := n8) (by omega))] at ev249
                refine lv_sipush (v := 3000) hx hb dX7_look_252 (by decide) ?_
                refine lv_icmp_ne (tgt := 263) hx hb dX7_look_255 (by decide) (fun c250 => ?_) (fun c250 => ?_)
                · skip
                  exact W.vret hx hb hr (fun t ht hW => ⟨⟨S245, rfl, ⟨hst, hI⟩, by rw [ht]; exact hP, va_K.moved hW.alike hK, hD⟩, hS.F ht⟩) hS.2.2 dX7_look_263
                · skip
                  have kn251 := ev249.symm.trans c250
                  refine lv_aload_n hx hb dX7_look_258 rfl (lv_at hl 1 rfl) ?_
                  refine lv_iload_n hx hb dX7_look_259 rfl (lv_at hl 2 rfl) ?_
                  refine zcallv (va_runV (As := [.int (nI n8)]) (rest := []) ⟨hx, hb, hml, hown, hts⟩ (c_X7_sleep l dC dI cy G S245 H.size mo ad n8 (hM.eq hst.1) hI (by omega)) (cwV 1 hts gX7_look_X7_sleep rfl rfl rfl (by decide +kernel) ⟨Nat.le_of_ble_eq_true rfl, Nat.le_of_ble_eq_true rfl⟩) (zpreV hK hP hD hN (zrecv7 hK hP hM.1)) rfl rfl hl.1 rfl (lv_room (Nat.le_of_ble_eq_true rfl)) dX7_look_260 ⟨Nat.le_of_ble_eq_true rfl, Nat.le_of_ble_eq_true rfl⟩) hS hD hA (fun S253 H locs hr252 hP hD hS => ?_)
                  have hst := hst.trans (hr252.1.mono (by decide) (by decide))
                  have hI := hr252.2
                  have kn254 := (congrFun (hr252.1.2.1 23 (by decide) (by decide)) n8).trans kn251
                  exact W.vret hx hb hr (fun t ht hW => ⟨⟨S253, rfl, ⟨hst, hI⟩, by rw [ht]; exact hP, va_K.moved hW.alike hK, hD⟩, hS.F ht⟩) hS.2.2 dX7_look_263
          · skip
            have kn255 := ev206.symm.trans c207
            refine lv_iload_n hx hb dX7_look_154 rfl (lv_at hl 3 rfl) ?_
            refine lv_iconst (v := 1) hx hb dX7_look_155 (by decide) ?_
            refine lv_icmp_ne (tgt := 237) hx hb dX7_look_156 (by decide) (fun c256 => ?_) (fun c256 => ?_)
            · skip
              refine lv_aload_n hx hb dX7_look_237 rfl (lv_at hl 1 rfl) ?_
              refine zget (ci := 7) (C := RX7) (T := TX7) (N := 42) hx hb hts hi7 hown hK hP hM.1 rfl rfl 16 (by decide) (hts (.fieldLink RX7 53 "LinClusterModel" "at" "[I") (by decide +kernel)) (fun _ h9 => h9) (v := .ref (ad 16)) (congrArg (fun z => some (va_rf z)) (((hM.eq hst.1).2.1 16 (by decide)).1)) dX7_look_238 ?_
              refine lv_iload_n hx hb dX7_look_241 rfl (lv_at hl 2 rfl) ?_
              refine ziald hx hb hK hP (hM.2.1 16 (by decide)).2.1 (show G.2.2 (ad 16) = 8 from (hM.2.1 16 (by decide)).2.2) (vp_in_nI (n := n8) (N := 8) (by omega) (by omega)) dX7_look_242 ?_
              refine lv_topi (fun v257 ev257 => ?_)
              rw [(nI_clamp (n := n8) (by omega))] at ev257
              obtain rfl : v257 = 2 := ev257.trans kn255
              refine lv_if_eq (tgt := 263) hx hb dX7_look_243 (by decide) (fun c258 => ?_) (fun c258 => ?_)
              · exact absurd c258 (by decide)
              · skip
                refine lv_aload_n hx hb dX7_look_246 rfl (lv_at hl 1 rfl) ?_
                refine zget (ci := 7) (C := RX7) (T := TX7) (N := 42) hx hb hts hi7 hown hK hP hM.1 rfl rfl 23 (by decide) (hts (.fieldLink RX7 74 "LinClusterModel" "ones" "[I") (by decide +kernel)) (fun _ h9 => h9) (v := .ref (ad 23)) (congrArg (fun z => some (va_rf z)) (((hM.eq hst.1).2.1 23 (by decide)).1)) dX7_look_247 ?_
                refine lv_iload_n hx hb dX7_look_250 rfl (lv_at hl 2 rfl) ?_
                refine ziald hx hb hK hP (hM.2.1 23 (by decide)).2.1 (show G.2.2 (ad 23) = 8 from (hM.2.1 23 (by decide)).2.2) (vp_in_nI (n := n8) (N := 8) (by omega) (by omega)) dX7_look_251 ?_
                refine lv_topi (fun v259 ev259 => ?_)
                rw [(nI_clamp (n := n8) (by omega))] at ev259
                obtain rfl : v259 = 0 := ev259.trans kn203
                refine lv_sipush (v := 3000) hx hb dX7_look_252 (by decide) ?_
                refine lv_icmp_ne (tgt := 263) hx hb dX7_look_255 (by decide) (fun c260 => ?_) (fun c260 => ?_)
                · skip
                  exact W.vret hx hb hr (fun t ht hW => ⟨⟨(zpi (zpi S (ad 22) n8 v197) (ad 23) n8 0), rfl, ⟨hst, hI⟩, by rw [ht]; exact hP, va_K.moved hW.alike hK, hD⟩, hS.F ht⟩) hS.2.2 dX7_look_263
                · exact absurd c260 (by decide)
            · skip
              refine lv_aload_n hx hb dX7_look_159 rfl (lv_at hl 1 rfl) ?_
              refine zget (ci := 7) (C := RX7) (T := TX7) (N := 42) hx hb hts hi7 hown hK hP hM.1 rfl rfl 16 (by decide) (hts (.fieldLink RX7 53 "LinClusterModel" "at" "[I") (by decide +kernel)) (fun _ h9 => h9) (v := .ref (ad 16)) (congrArg (fun z => some (va_rf z)) (((hM.eq hst.1).2.1 16 (by decide)).1)) dX7_look_160 ?_
              refine lv_iload_n hx hb dX7_look_163 rfl (lv_at hl 2 rfl) ?_
              refine lv_iconst (v := 3) hx hb dX7_look_164 (by decide) ?_
              refine ziast (x := 3) hx hb hK hP hD hS (hM.2.1 16 (by decide)).2.1 (show G.2.2 (ad 16) = 8 from (hM.2.1 16 (by decide)).2.2) (vp_in_nI (n := n8) (N := 8) (by omega) (by omega)) dX7_look_165 (fun H locs hP hD hS => ?_)
              rw [(nI_clamp (n := n8) (by omega))] at hP hD
              have hst := zC.pa hM hst (k := 16) (by decide) (by decide) n8 3
              have kn261 := zpi_o hM (zpi (zpi S (ad 22) n8 v197) (ad 23) n8 0) (i := 22) (k := 16) (by decide) (by decide) (by decide) n8 3 kn202
              have kn262 := zpi_o hM (zpi (zpi S (ad 22) n8 v197) (ad 23) n8 0) (i := 23) (k := 16) (by decide) (by decide) (by decide) n8 3 kn203
              have hI := hI.at hM hn8 (v := 3) (by decide) (by decide)
              have kn263 := zpi_s (zpi (zpi S (ad 22) n8 v197) (ad 23) n8 0) (ad 16) n8 3
              refine lv_aload_n hx hb dX7_look_166 rfl (lv_at hl 1 rfl) ?_
              refine zget (ci := 7) (C := RX7) (T := TX7) (N := 42) hx hb hts hi7 hown hK hP hM.1 rfl rfl 27 (by decide) (hts (.fieldLink RX7 86 "LinClusterModel" "characters" "[I") (by decide +kernel)) (fun _ h9 => h9) (v := .ref (ad 27)) (congrArg (fun z => some (va_rf z)) (((hM.eq hst.1).2.1 27 (by decide)).1)) dX7_look_167 ?_
              refine lv_iload_n hx hb dX7_look_170 rfl (lv_at hl 2 rfl) ?_
              refine lv_iconst (v := 0) hx hb dX7_look_171 (by decide) ?_
              refine ziast (x := 0) hx hb hK hP hD hS (hM.2.1 27 (by decide)).2.1 (show G.2.2 (ad 27) = 8 from (hM.2.1 27 (by decide)).2.2) (vp_in_nI (n := n8) (N := 8) (by omega) (by omega)) dX7_look_172 (fun H locs hP hD hS => ?_)
              rw [(nI_clamp (n := n8) (by omega))] at hP hD
              have hst := zC.pa hM hst (k := 27) (by decide) (by decide) n8 0
              have kn264 := zpi_o hM (zpi (zpi (zpi S (ad 22) n8 v197) (ad 23) n8 0) (ad 16) n8 3) (i := 22) (k := 27) (by decide) (by decide) (by decide) n8 0 kn261
              have kn265 := zpi_o hM (zpi (zpi (zpi S (ad 22) n8 v197) (ad 23) n8 0) (ad 16) n8 3) (i := 23) (k := 27) (by decide) (by decide) (by decide) n8 0 kn262
              have kn266 := zpi_o hM (zpi (zpi (zpi S (ad 22) n8 v197) (ad 23) n8 0) (ad 16) n8 3) (i := 16) (k := 27) (by decide) (by decide) (by decide) n8 0 kn263
              have hI := hI.ix hn8
              have hI := hI.ch hM 0
              have kn267 := zpi_s (zpi (zpi (zpi S (ad 22) n8 v197) (ad 23) n8 0) (ad 16) n8 3) (ad 27) n8 0
              have hI := hI.idle (by rw [kn266]; decide) (by rw [kn266]; decide)
              refine lv_aload_n hx hb dX7_look_173 rfl (lv_at hl 1 rfl) ?_
              refine zget (ci := 7) (C := RX7) (T := TX7) (N := 42) hx hb hts hi7 hown hK hP hM.1 rfl rfl 25 (by decide) (hts (.fieldLink RX7 80 "LinClusterModel" "bitsSoFar" "[I") (by decide +kernel)) (fun _ h9 => h9) (v := .ref (ad 25)) (congrArg (fun z => some (va_rf z)) (((hM.eq hst.1).2.1 25 (by decide)).1)) dX7_look_174 ?_
              refine lv_iload_n hx hb dX7_look_177 rfl (lv_at hl 2 rfl) ?_
              refine lv_iconst (v := 0) hx hb dX7_look_178 (by decide) ?_
              refine ziast (x := 0) hx hb hK hP hD hS (hM.2.1 25 (by decide)).2.1 (show G.2.2 (ad 25) = 8 from (hM.2.1 25 (by decide)).2.2) (vp_in_nI (n := n8) (N := 8) (by omega) (by omega)) dX7_look_179 (fun H locs hP hD hS => ?_)
              rw [(nI_clamp (n := n8) (by omega))] at hP hD
              have hst := zC.pa hM hst (k := 25) (by decide) (by decide) n8 0
              have kn268 := zpi_o hM (zpi (zpi (zpi (zpi S (ad 22) n8 v197) (ad 23) n8 0) (ad 16) n8 3) (ad 27) n8 0) (i := 22) (k := 25) (by decide) (by decide) (by decide) n8 0 kn264
              have kn269 := zpi_o hM (zpi (zpi (zpi (zpi S (ad 22) n8 v197) (ad 23) n8 0) (ad 16) n8 3) (ad 27) n8 0) (i := 23) (k := 25) (by decide) (by decide) (by decide) n8 0 kn265
              have kn270 := zpi_o hM (zpi (zpi (zpi (zpi S (ad 22) n8 v197) (ad 23) n8 0) (ad 16) n8 3) (ad 27) n8 0) (i := 16) (k := 25) (by decide) (by decide) (by decide) n8 0 kn266
              have kn271 := zpi_o hM (zpi (zpi (zpi (zpi S (ad 22) n8 v197) (ad 23) n8 0) (ad 16) n8 3) (ad 27) n8 0) (i := 27) (k := 25) (by decide) (by decide) (by decide) n8 0 kn267
              have hI := hI.free hM (k := 25) (by decide) (by decide) n8 0
              have kn272 := zpi_s (zpi (zpi (zpi (zpi S (ad 22) n8 v197) (ad 23) n8 0) (ad 16) n8 3) (ad 27) n8 0) (ad 25) n8 0
              refine lv_goto (tgt := 237) hx hb dX7_look_180 (by decide) ?_
              refine lv_aload_n hx hb dX7_look_237 rfl (lv_at hl 1 rfl) ?_
              refine zget (ci := 7) (C := RX7) (T := TX7) (N := 42) hx hb hts hi7 hown hK hP hM.1 rfl rfl 16 (by decide) (hts (.fieldLink RX7 53 "LinClusterModel" "at" "[I") (by decide +kernel)) (fun _ h9 => h9) (v := .ref (ad 16)) (congrArg (fun z => some (va_rf z)) (((hM.eq hst.1).2.1 16 (by decide)).1)) dX7_look_238 ?_
              refine lv_iload_n hx hb dX7_look_241 rfl (lv_at hl 2 rfl) ?_
              refine ziald hx hb hK hP (hM.2.1 16 (by decide)).2.1 (show G.2.2 (ad 16) = 8 from (hM.2.1 16 (by decide)).2.2) (vp_in_nI (n := n8) (N := 8) (by omega) (by omega)) dX7_look_242 ?_
              refine lv_topi (fun v273 ev273 => ?_)
              rw [(nI_clamp (n := n8) (by omega))] at ev273
              obtain rfl : v273 = 3 := ev273.trans kn270
              refine lv_if_eq (tgt := 263) hx hb dX7_look_243 (by decide) (fun c274 => ?_) (fun c274 => ?_)
              · exact absurd c274 (by decide)
              · skip
                refine lv_aload_n hx hb dX7_look_246 rfl (lv_at hl 1 rfl) ?_
                refine zget (ci := 7) (C := RX7) (T := TX7) (N := 42) hx hb hts hi7 hown hK hP hM.1 rfl rfl 23 (by decide) (hts (.fieldLink RX7 74 "LinClusterModel" "ones" "[I") (by decide +kernel)) (fun _ h9 => h9) (v := .ref (ad 23)) (congrArg (fun z => some (va_rf z)) (((hM.eq hst.1).2.1 23 (by decide)).1)) dX7_look_247 ?_
                refine lv_iload_n hx hb dX7_look_250 rfl (lv_at hl 2 rfl) ?_
                refine ziald hx hb hK hP (hM.2.1 23 (by decide)).2.1 (show G.2.2 (ad 23) = 8 from (hM.2.1 23 (by decide)).2.2) (vp_in_nI (n := n8) (N := 8) (by omega) (by omega)) dX7_look_251 ?_
                refine lv_topi (fun v275 ev275 => ?_)
                rw [(nI_clamp (n := n8) (by omega))] at ev275
                obtain rfl : v275 = 0 := ev275.trans kn269
                refine lv_sipush (v := 3000) hx hb dX7_look_252 (by decide) ?_
                refine lv_icmp_ne (tgt := 263) hx hb dX7_look_255 (by decide) (fun c276 => ?_) (fun c276 => ?_)
                · skip
                  exact W.vret hx hb hr (fun t ht hW => ⟨⟨(zpi (zpi (zpi (zpi (zpi S (ad 22) n8 v197) (ad 23) n8 0) (ad 16) n8 3) (ad 27) n8 0) (ad 25) n8 0), rfl, ⟨hst, hI⟩, by rw [ht]; exact hP, va_K.moved hW.alike hK, hD⟩, hS.F ht⟩) hS.2.2 dX7_look_263
                · exact absurd c276 (by decide)
        · skip
          have kn277 := ev204.symm.trans c205
          refine lv_aload_n hx hb dX7_look_119 rfl (lv_at hl 1 rfl) ?_
          refine zget (ci := 7) (C := RX7) (T := TX7) (N := 42) hx hb hts hi7 hown hK hP hM.1 rfl rfl 16 (by decide) (hts (.fieldLink RX7 53 "LinClusterModel" "at" "[I") (by decide +kernel)) (fun _ h9 => h9) (v := .ref (ad 16)) (congrArg (fun z => some (va_rf z)) (((hM.eq hst.1).2.1 16 (by decide)).1)) dX7_look_120 ?_
          refine lv_iload_n hx hb dX7_look_123 rfl (lv_at hl 2 rfl) ?_
          refine ziald hx hb hK hP (hM.2.1 16 (by decide)).2.1 (show G.2.2 (ad 16) = 8 from (hM.2.1 16 (by decide)).2.2) (vp_in_nI (n := n8) (N := 8) (by omega) (by omega)) dX7_look_124 ?_
          refine lv_topi (fun v278 ev278 => ?_)
          rw [(nI_clamp (n := n8) (by omega))] at ev278
          refine lv_iconst (v := 5) hx hb dX7_look_125 (by decide) ?_
          refine lv_icmp_ne (tgt := 134) hx hb dX7_look_126 (by decide) (fun c279 => ?_) (fun c279 => ?_)
          · skip
            refine lv_aload_n hx hb dX7_look_134 rfl (lv_at hl 1 rfl) ?_
            refine zget (ci := 7) (C := RX7) (T := TX7) (N := 42) hx hb hts hi7 hown hK hP hM.1 rfl rfl 16 (by decide) (hts (.fieldLink RX7 53 "LinClusterModel" "at" "[I") (by decide +kernel)) (fun _ h9 => h9) (v := .ref (ad 16)) (congrArg (fun z => some (va_rf z)) (((hM.eq hst.1).2.1 16 (by decide)).1)) dX7_look_135 ?_
            refine lv_iload_n hx hb dX7_look_138 rfl (lv_at hl 2 rfl) ?_
            refine lv_iconst (v := 2) hx hb dX7_look_139 (by decide) ?_
            refine ziast (x := 2) hx hb hK hP hD hS (hM.2.1 16 (by decide)).2.1 (show G.2.2 (ad 16) = 8 from (hM.2.1 16 (by decide)).2.2) (vp_in_nI (n := n8) (N := 8) (by omega) (by omega)) dX7_look_140 (fun H locs hP hD hS => ?_)
            rw [(nI_clamp (n := n8) (by omega))] at hP hD
            have hst := zC.pa hM hst (k := 16) (by decide) (by decide) n8 2
            have kn280 := zpi_o hM (zpi (zpi S (ad 22) n8 v197) (ad 23) n8 0) (i := 22) (k := 16) (by decide) (by decide) (by decide) n8 2 kn277
            have kn281 := zpi_o hM (zpi (zpi S (ad 22) n8 v197) (ad 23) n8 0) (i := 23) (k := 16) (by decide) (by decide) (by decide) n8 2 kn203
            have hI := hI.at hM hn8 (v := 2) (by decide) (by decide)
            have kn282 := zpi_s (zpi (zpi S (ad 22) n8 v197) (ad 23) n8 0) (ad 16) n8 2
            refine lv_goto (tgt := 237) hx hb dX7_look_141 (by decide) ?_
            refine lv_aload_n hx hb dX7_look_237 rfl (lv_at hl 1 rfl) ?_
            refine zget (ci := 7) (C := RX7) (T := TX7) (N := 42) hx hb hts hi7 hown hK hP hM.1 rfl rfl 16 (by decide) (hts (.fieldLink RX7 53 "LinClusterModel" "at" "[I") (by decide +kernel)) (fun _ h9 => h9) (v := .ref (ad 16)) (congrArg (fun z => some (va_rf z)) (((hM.eq hst.1).2.1 16 (by decide)).1)) dX7_look_238 ?_
            refine lv_iload_n hx hb dX7_look_241 rfl (lv_at hl 2 rfl) ?_
            refine ziald hx hb hK hP (hM.2.1 16 (by decide)).2.1 (show G.2.2 (ad 16) = 8 from (hM.2.1 16 (by decide)).2.2) (vp_in_nI (n := n8) (N := 8) (by omega) (by omega)) dX7_look_242 ?_
            refine lv_topi (fun v283 ev283 => ?_)
            rw [(nI_clamp (n := n8) (by omega))] at ev283
            obtain rfl : v283 = 2 := ev283.trans kn282
            refine lv_if_eq (tgt := 263) hx hb dX7_look_243 (by decide) (fun c284 => ?_) (fun c284 => ?_)
            · exact absurd c284 (by decide)
            · skip
              refine lv_aload_n hx hb dX7_look_246 rfl (lv_at hl 1 rfl) ?_
              refine zget (ci := 7) (C := RX7) (T := TX7) (N := 42) hx hb hts hi7 hown hK hP hM.1 rfl rfl 23 (by decide) (hts (.fieldLink RX7 74 "LinClusterModel" "ones" "[I") (by decide +kernel)) (fun _ h9 => h9) (v := .ref (ad 23)) (congrArg (fun z => some (va_rf z)) (((hM.eq hst.1).2.1 23 (by decide)).1)) dX7_look_247 ?_
              refine lv_iload_n hx hb dX7_look_250 rfl (lv_at hl 2 rfl) ?_
              refine ziald hx hb hK hP (hM.2.1 23 (by decide)).2.1 (show G.2.2 (ad 23) = 8 from (hM.2.1 23 (by decide)).2.2) (vp_in_nI (n := n8) (N := 8) (by omega) (by omega)) dX7_look_251 ?_
              refine lv_topi (fun v285 ev285 => ?_)
              rw [(nI_clamp (n := n8) (by omega))] at ev285
              obtain rfl : v285 = 0 := ev285.trans kn281
              refine lv_sipush (v := 3000) hx hb dX7_look_252 (by decide) ?_
              refine lv_icmp_ne (tgt := 263) hx hb dX7_look_255 (by decide) (fun c286 => ?_) (fun c286 => ?_)
              · skip
                exact W.vret hx hb hr (fun t ht hW => ⟨⟨(zpi (zpi (zpi S (ad 22) n8 v197) (ad 23) n8 0) (ad 16) n8 2), rfl, ⟨hst, hI⟩, by rw [ht]; exact hP, va_K.moved hW.alike hK, hD⟩, hS.F ht⟩) hS.2.2 dX7_look_263
              · exact absurd c286 (by decide)
          · skip
            have kn287 := ev278.symm.trans c279
            refine lv_aload_n hx hb dX7_look_129 rfl (lv_at hl 1 rfl) ?_
            refine lv_iload_n hx hb dX7_look_130 rfl (lv_at hl 2 rfl) ?_
            refine zcallv (va_runV (As := [.int (nI n8)]) (rest := []) ⟨hx, hb, hml, hown, hts⟩ (c_X7_error l dC dI cy G (zpi (zpi S (ad 22) n8 v197) (ad 23) n8 0) H.size mo ad n8 (hM.eq hst.1) (by omega)) (cwV 1 hts gX7_look_X7_error rfl rfl rfl (by decide +kernel) ⟨Nat.le_of_ble_eq_true rfl, Nat.le_of_ble_eq_true rfl⟩) (zpreV hK hP hD hN (zrecv7 hK hP hM.1)) rfl rfl hl.1 rfl (lv_room (Nat.le_of_ble_eq_true rfl)) dX7_look_131 ⟨Nat.le_of_ble_eq_true rfl, Nat.le_of_ble_eq_true rfl⟩) hS hD hA (fun S289 H locs hr288 hP hD hS => ?_)
            have hst := hst.trans (hr288.mono (by decide) (by decide))
            have hI := hI.c hr288 (by decide) (by decide)
            have kn290 := (congrFun (hr288.2.1 22 (by decide) (by decide)) n8).trans kn277
            have kn291 := (congrFun (hr288.2.1 23 (by decide) (by decide)) n8).trans kn203
            have kn292 := (congrFun (hr288.2.1 16 (by decide) (by decide)) n8).trans kn287
            refine lv_aload_n hx hb dX7_look_134 rfl (lv_at hl 1 rfl) ?_
            refine zget (ci := 7) (C := RX7) (T := TX7) (N := 42) hx hb hts hi7 hown hK hP hM.1 rfl rfl 16 (by decide) (hts (.fieldLink RX7 53 "LinClusterModel" "at" "[I") (by decide +kernel)) (fun _ h9 => h9) (v := .ref (ad 16)) (congrArg (fun z => some (va_rf z)) (((hM.eq hst.1).2.1 16 (by decide)).1)) dX7_look_135 ?_
            refine lv_iload_n hx hb dX7_look_138 rfl (lv_at hl 2 rfl) ?_
            refine lv_iconst (v := 2) hx hb dX7_look_139 (by decide) ?_
            refine ziast (x := 2) hx hb hK hP hD hS (hM.2.1 16 (by decide)).2.1 (show G.2.2 (ad 16) = 8 from (hM.2.1 16 (by decide)).2.2) (vp_in_nI (n := n8) (N := 8) (by omega) (by omega)) dX7_look_140 (fun H locs hP hD hS => ?_)
            rw [(nI_clamp (n := n8) (by omega))] at hP hD
            have hst := zC.pa hM hst (k := 16) (by decide) (by decide) n8 2
            have kn293 := zpi_o hM S289 (i := 22) (k := 16) (by decide) (by decide) (by decide) n8 2 kn290
            have kn294 := zpi_o hM S289 (i := 23) (k := 16) (by decide) (by decide) (by decide) n8 2 kn291
            have hI := hI.at hM hn8 (v := 2) (by decide) (by decide)
            have kn295 := zpi_s S289 (ad 16) n8 2
            refine lv_goto (tgt := 237) hx hb dX7_look_141 (by decide) ?_
            refine lv_aload_n hx hb dX7_look_237 rfl (lv_at hl 1 rfl) ?_
            refine zget (ci := 7) (C := RX7) (T := TX7) (N := 42) hx hb hts hi7 hown hK hP hM.1 rfl rfl 16 (by decide) (hts (.fieldLink RX7 53 "LinClusterModel" "at" "[I") (by decide +kernel)) (fun _ h9 => h9) (v := .ref (ad 16)) (congrArg (fun z => some (va_rf z)) (((hM.eq hst.1).2.1 16 (by decide)).1)) dX7_look_238 ?_
            refine lv_iload_n hx hb dX7_look_241 rfl (lv_at hl 2 rfl) ?_
            refine ziald hx hb hK hP (hM.2.1 16 (by decide)).2.1 (show G.2.2 (ad 16) = 8 from (hM.2.1 16 (by decide)).2.2) (vp_in_nI (n := n8) (N := 8) (by omega) (by omega)) dX7_look_242 ?_
            refine lv_topi (fun v296 ev296 => ?_)
            rw [(nI_clamp (n := n8) (by omega))] at ev296
            obtain rfl : v296 = 2 := ev296.trans kn295
            refine lv_if_eq (tgt := 263) hx hb dX7_look_243 (by decide) (fun c297 => ?_) (fun c297 => ?_)
            · exact absurd c297 (by decide)
            · skip
              refine lv_aload_n hx hb dX7_look_246 rfl (lv_at hl 1 rfl) ?_
              refine zget (ci := 7) (C := RX7) (T := TX7) (N := 42) hx hb hts hi7 hown hK hP hM.1 rfl rfl 23 (by decide) (hts (.fieldLink RX7 74 "LinClusterModel" "ones" "[I") (by decide +kernel)) (fun _ h9 => h9) (v := .ref (ad 23)) (congrArg (fun z => some (va_rf z)) (((hM.eq hst.1).2.1 23 (by decide)).1)) dX7_look_247 ?_
              refine lv_iload_n hx hb dX7_look_250 rfl (lv_at hl 2 rfl) ?_
              refine ziald hx hb hK hP (hM.2.1 23 (by decide)).2.1 (show G.2.2 (ad 23) = 8 from (hM.2.1 23 (by decide)).2.2) (vp_in_nI (n := n8) (N := 8) (by omega) (by omega)) dX7_look_251 ?_
              refine lv_topi (fun v298 ev298 => ?_)
              rw [(nI_clamp (n := n8) (by omega))] at ev298
              obtain rfl : v298 = 0 := ev298.trans kn294
              refine lv_sipush (v := 3000) hx hb dX7_look_252 (by decide) ?_
              refine lv_icmp_ne (tgt := 263) hx hb dX7_look_255 (by decide) (fun c299 => ?_) (fun c299 => ?_)
              · skip
                exact W.vret hx hb hr (fun t ht hW => ⟨⟨(zpi S289 (ad 16) n8 2), rfl, ⟨hst, hI⟩, by rw [ht]; exact hP, va_K.moved hW.alike hK, hD⟩, hS.F ht⟩) hS.2.2 dX7_look_263
              · exact absurd c299 (by decide)
      · skip
        refine lv_aload_n hx hb dX7_look_95 rfl (lv_at hl 1 rfl) ?_
        refine zget (ci := 7) (C := RX7) (T := TX7) (N := 42) hx hb hts hi7 hown hK hP hM.1 rfl rfl 23 (by decide) (hts (.fieldLink RX7 74 "LinClusterModel" "ones" "[I") (by decide +kernel)) (fun _ h9 => h9) (v := .ref (ad 23)) (congrArg (fun z => some (va_rf z)) (((hM.eq hst.1).2.1 23 (by decide)).1)) dX7_look_96 ?_
        refine lv_iload_n hx hb dX7_look_99 rfl (lv_at hl 2 rfl) ?_
        refine ziald hx hb hK hP (hM.2.1 23 (by decide)).2.1 (show G.2.2 (ad 23) = 8 from (hM.2.1 23 (by decide)).2.2) (vp_in_nI (n := n8) (N := 8) (by omega) (by omega)) dX7_look_100 ?_
        refine lv_topi (fun v300 ev300 => ?_)
        rw [(nI_clamp (n := n8) (by omega))] at ev300
        refine lv_iconst (v := 1) hx hb dX7_look_101 (by decide) ?_
        refine lv_iadd hx hb dX7_look_102 ?_
        refine lv_topi (fun v301 ev301 => ?_)
        refine lv_goto (tgt := 107) hx hb dX7_look_103 (by decide) ?_
        refine ziast (x := v301) hx hb hK hP hD hS (hM.2.1 23 (by decide)).2.1 (show G.2.2 (ad 23) = 8 from (hM.2.1 23 (by decide)).2.2) (vp_in_nI (n := n8) (N := 8) (by omega) (by omega)) dX7_look_107 (fun H locs hP hD hS => ?_)
        rw [(nI_clamp (n := n8) (by omega))] at hP hD
        have hst := zC.pa hM hst (k := 23) (by decide) (by decide) n8 v301
        have kn302 := zpi_o hM (zpi S (ad 22) n8 v197) (i := 22) (k := 23) (by decide) (by decide) (by decide) n8 v301 kn198
        have hI := hI.free hM (k := 23) (by decide) (by decide) n8 v301
        have kn303 := zpi_s (zpi S (ad 22) n8 v197) (ad 23) n8 v301
        refine lv_aload_n hx hb dX7_look_108 rfl (lv_at hl 1 rfl) ?_
        refine zget (ci := 7) (C := RX7) (T := TX7) (N := 42) hx hb hts hi7 hown hK hP hM.1 rfl rfl 22 (by decide) (hts (.fieldLink RX7 71 "LinClusterModel" "zeros" "[I") (by decide +kernel)) (fun _ h9 => h9) (v := .ref (ad 22)) (congrArg (fun z => some (va_rf z)) (((hM.eq hst.1).2.1 22 (by decide)).1)) dX7_look_109 ?_
        refine lv_iload_n hx hb dX7_look_112 rfl (lv_at hl 2 rfl) ?_
        refine ziald hx hb hK hP (hM.2.1 22 (by decide)).2.1 (show G.2.2 (ad 22) = 8 from (hM.2.1 22 (by decide)).2.2) (vp_in_nI (n := n8) (N := 8) (by omega) (by omega)) dX7_look_113 ?_
        refine lv_topi (fun v304 ev304 => ?_)
        rw [(nI_clamp (n := n8) (by omega))] at ev304
        refine lv_bipush (v := 11) hx hb dX7_look_114 (by decide) ?_
        refine lv_icmp_ne (tgt := 144) hx hb dX7_look_116 (by decide) (fun c305 => ?_) (fun c305 => ?_)
        · skip
          refine lv_aload_n hx hb dX7_look_144 rfl (lv_at hl 1 rfl) ?_
          refine zget (ci := 7) (C := RX7) (T := TX7) (N := 42) hx hb hts hi7 hown hK hP hM.1 rfl rfl 16 (by decide) (hts (.fieldLink RX7 53 "LinClusterModel" "at" "[I") (by decide +kernel)) (fun _ h9 => h9) (v := .ref (ad 16)) (congrArg (fun z => some (va_rf z)) (((hM.eq hst.1).2.1 16 (by decide)).1)) dX7_look_145 ?_
          refine lv_iload_n hx hb dX7_look_148 rfl (lv_at hl 2 rfl) ?_
          refine ziald hx hb hK hP (hM.2.1 16 (by decide)).2.1 (show G.2.2 (ad 16) = 8 from (hM.2.1 16 (by decide)).2.2) (vp_in_nI (n := n8) (N := 8) (by omega) (by omega)) dX7_look_149 ?_
          refine lv_topi (fun v306 ev306 => ?_)
          rw [(nI_clamp (n := n8) (by omega))] at ev306
          refine lv_iconst (v := 2) hx hb dX7_look_150 (by decide) ?_
          refine lv_icmp_ne (tgt := 183) hx hb dX7_look_151 (by decide) (fun c307 => ?_) (fun c307 => ?_)
          · skip
            refine lv_aload_n hx hb dX7_look_183 rfl (lv_at hl 1 rfl) ?_
            refine zget (ci := 7) (C := RX7) (T := TX7) (N := 42) hx hb hts hi7 hown hK hP hM.1 rfl rfl 16 (by decide) (hts (.fieldLink RX7 53 "LinClusterModel" "at" "[I") (by decide +kernel)) (fun _ h9 => h9) (v := .ref (ad 16)) (congrArg (fun z => some (va_rf z)) (((hM.eq hst.1).2.1 16 (by decide)).1)) dX7_look_184 ?_
            refine lv_iload_n hx hb dX7_look_187 rfl (lv_at hl 2 rfl) ?_
            refine ziald hx hb hK hP (hM.2.1 16 (by decide)).2.1 (show G.2.2 (ad 16) = 8 from (hM.2.1 16 (by decide)).2.2) (vp_in_nI (n := n8) (N := 8) (by omega) (by omega)) dX7_look_188 ?_
            refine lv_topi (fun v308 ev308 => ?_)
            rw [(nI_clamp (n := n8) (by omega))] at ev308
            refine lv_iconst (v := 3) hx hb dX7_look_189 (by decide) ?_
            refine lv_icmp_ne (tgt := 202) hx hb dX7_look_190 (by decide) (fun c309 => ?_) (fun c309 => ?_)
            · skip
              refine lv_aload_n hx hb dX7_look_202 rfl (lv_at hl 1 rfl) ?_
              refine zget (ci := 7) (C := RX7) (T := TX7) (N := 42) hx hb hts hi7 hown hK hP hM.1 rfl rfl 16 (by decide) (hts (.fieldLink RX7 53 "LinClusterModel" "at" "[I") (by decide +kernel)) (fun _ h9 => h9) (v := .ref (ad 16)) (congrArg (fun z => some (va_rf z)) (((hM.eq hst.1).2.1 16 (by decide)).1)) dX7_look_203 ?_
              refine lv_iload_n hx hb dX7_look_206 rfl (lv_at hl 2 rfl) ?_
              refine ziald hx hb hK hP (hM.2.1 16 (by decide)).2.1 (show G.2.2 (ad 16) = 8 from (hM.2.1 16 (by decide)).2.2) (vp_in_nI (n := n8) (N := 8) (by omega) (by omega)) dX7_look_207 ?_
              refine lv_topi (fun v310 ev310 => ?_)
              rw [(nI_clamp (n := n8) (by omega))] at ev310
              refine lv_iconst (v := 4) hx hb dX7_look_208 (by decide) ?_
              refine lv_icmp_ne (tgt := 221) hx hb dX7_look_209 (by decide) (fun c311 => ?_) (fun c311 => ?_)
              · skip
                refine lv_aload_n hx hb dX7_look_221 rfl (lv_at hl 1 rfl) ?_
                refine zget (ci := 7) (C := RX7) (T := TX7) (N := 42) hx hb hts hi7 hown hK hP hM.1 rfl rfl 16 (by decide) (hts (.fieldLink RX7 53 "LinClusterModel" "at" "[I") (by decide +kernel)) (fun _ h9 => h9) (v := .ref (ad 16)) (congrArg (fun z => some (va_rf z)) (((hM.eq hst.1).2.1 16 (by decide)).1)) dX7_look_222 ?_
                refine lv_iload_n hx hb dX7_look_225 rfl (lv_at hl 2 rfl) ?_
                refine ziald hx hb hK hP (hM.2.1 16 (by decide)).2.1 (show G.2.2 (ad 16) = 8 from (hM.2.1 16 (by decide)).2.2) (vp_in_nI (n := n8) (N := 8) (by omega) (by omega)) dX7_look_226 ?_
                refine lv_topi (fun v312 ev312 => ?_)
                rw [(nI_clamp (n := n8) (by omega))] at ev312
                refine lv_iconst (v := 5) hx hb dX7_look_227 (by decide) ?_
                refine lv_icmp_ne (tgt := 237) hx hb dX7_look_228 (by decide) (fun c313 => ?_) (fun c313 => ?_)
                · skip
                  refine lv_aload_n hx hb dX7_look_237 rfl (lv_at hl 1 rfl) ?_
                  refine zget (ci := 7) (C := RX7) (T := TX7) (N := 42) hx hb hts hi7 hown hK hP hM.1 rfl rfl 16 (by decide) (hts (.fieldLink RX7 53 "LinClusterModel" "at" "[I") (by decide +kernel)) (fun _ h9 => h9) (v := .ref (ad 16)) (congrArg (fun z => some (va_rf z)) (((hM.eq hst.1).2.1 16 (by decide)).1)) dX7_look_238 ?_
                  refine lv_iload_n hx hb dX7_look_241 rfl (lv_at hl 2 rfl) ?_
                  refine ziald hx hb hK hP (hM.2.1 16 (by decide)).2.1 (show G.2.2 (ad 16) = 8 from (hM.2.1 16 (by decide)).2.2) (vp_in_nI (n := n8) (N := 8) (by omega) (by omega)) dX7_look_242 ?_
                  refine lv_topi (fun v314 ev314 => ?_)
                  rw [(nI_clamp (n := n8) (by omega))] at ev314
                  refine lv_if_eq (tgt := 263) hx hb dX7_look_243 (by decide) (fun c315 => ?_) (fun c315 => ?_)
                  · skip
                    have kn316 := ev314.symm.trans c315
                    exact W.vret hx hb hr (fun t ht hW => ⟨⟨(zpi (zpi S (ad 22) n8 v197) (ad 23) n8 v301), rfl, ⟨hst, hI⟩, by rw [ht]; exact hP, va_K.moved hW.alike hK, hD⟩, hS.F ht⟩) hS.2.2 dX7_look_263
                  · skip
                    refine lv_aload_n hx hb dX7_look_246 rfl (lv_at hl 1 rfl) ?_
                    refine zget (ci := 7) (C := RX7) (T := TX7) (N := 42) hx hb hts hi7 hown hK hP hM.1 rfl rfl 23 (by decide) (hts (.fieldLink RX7 74 "LinClusterModel" "ones" "[I") (by decide +kernel)) (fun _ h9 => h9) (v := .ref (ad 23)) (congrArg (fun z => some (va_rf z)) (((hM.eq hst.1).2.1 23 (by decide)).1)) dX7_look_247 ?_
                    refine lv_iload_n hx hb dX7_look_250 rfl (lv_at hl 2 rfl) ?_
                    refine ziald hx hb hK hP (hM.2.1 23 (by decide)).2.1 (show G.2.2 (ad 23) = 8 from (hM.2.1 23 (by decide)).2.2) (vp_in_nI (n := n8) (N := 8) (by omega) (by omega)) dX7_look_251 ?_
                    refine lv_topi (fun v317 ev317 => ?_)
                    rw [(nI_clamp (n := n8) (by omega))] at ev317
                    refine lv_sipush (v := 3000) hx hb dX7_look_252 (by decide) ?_
                    refine lv_icmp_ne (tgt := 263) hx hb dX7_look_255 (by decide) (fun c318 => ?_) (fun c318 => ?_)
                    · skip
                      exact W.vret hx hb hr (fun t ht hW => ⟨⟨(zpi (zpi S (ad 22) n8 v197) (ad 23) n8 v301), rfl, ⟨hst, hI⟩, by rw [ht]; exact hP, va_K.moved hW.alike hK, hD⟩, hS.F ht⟩) hS.2.2 dX7_look_263
                    · skip
                      have kn319 := ev317.symm.trans c318
                      refine lv_aload_n hx hb dX7_look_258 rfl (lv_at hl 1 rfl) ?_
                      refine lv_iload_n hx hb dX7_look_259 rfl (lv_at hl 2 rfl) ?_
                      refine zcallv (va_runV (As := [.int (nI n8)]) (rest := []) ⟨hx, hb, hml, hown, hts⟩ (c_X7_sleep l dC dI cy G (zpi (zpi S (ad 22) n8 v197) (ad 23) n8 v301) H.size mo ad n8 (hM.eq hst.1) hI (by omega)) (cwV 1 hts gX7_look_X7_sleep rfl rfl rfl (by decide +kernel) ⟨Nat.le_of_ble_eq_true rfl, Nat.le_of_ble_eq_true rfl⟩) (zpreV hK hP hD hN (zrecv7 hK hP hM.1)) rfl rfl hl.1 rfl (lv_room (Nat.le_of_ble_eq_true rfl)) dX7_look_260 ⟨Nat.le_of_ble_eq_true rfl, Nat.le_of_ble_eq_true rfl⟩) hS hD hA (fun S321 H locs hr320 hP hD hS => ?_)
                      have hst := hst.trans (hr320.1.mono (by decide) (by decide))
                      have hI := hr320.2
                      have kn322 := (congrFun (hr320.1.2.1 22 (by decide) (by decide)) n8).trans kn302
                      have kn323 := (congrFun (hr320.1.2.1 23 (by decide) (by decide)) n8).trans kn319
                      exact W.vret hx hb hr (fun t ht hW => ⟨⟨S321, rfl, ⟨hst, hI⟩, by rw [ht]; exact hP, va_K.moved hW.alike hK, hD⟩, hS.F ht⟩) hS.2.2 dX7_look_263
                · skip
                  have kn324 := ev312.symm.trans c313
                  refine lv_aload_n hx hb dX7_look_231 rfl (lv_at hl 1 rfl) ?_
                  refine lv_iload_n hx hb dX7_look_232 rfl (lv_at hl 2 rfl) ?_
                  refine lv_iload_n hx hb dX7_look_233 rfl (lv_at hl 3 rfl) ?_
                  refine zcallv (va_runV (As := [.int (nI n8), .int v]) (rest := []) ⟨hx, hb, hml, hown, hts⟩ (c_X7_taking l dC dI cy G (zpi (zpi S (ad 22) n8 v197) (ad 23) n8 v301) H.size mo ad n8 v (hM.eq hst.1) hI (by omega) kn324) (cwV 2 hts gX7_look_X7_taking rfl rfl rfl (by decide +kernel) ⟨Nat.le_of_ble_eq_true rfl, Nat.le_of_ble_eq_true rfl⟩) (zpreV hK hP hD hN (zrecv7 hK hP hM.1)) rfl rfl hl.1 rfl (lv_room (Nat.le_of_ble_eq_true rfl)) dX7_look_234 ⟨Nat.le_of_ble_eq_true rfl, Nat.le_of_ble_eq_true rfl⟩) hS hD hA (fun S326 H locs hr325 hP hD hS => ?_)
                  have hst := hst.trans (hr325.1.mono (by decide) (by decide))
                  have hI := hr325.2
                  refine lv_aload_n hx hb dX7_look_237 rfl (lv_at hl 1 rfl) ?_
                  refine zget (ci := 7) (C := RX7) (T := TX7) (N := 42) hx hb hts hi7 hown hK hP hM.1 rfl rfl 16 (by decide) (hts (.fieldLink RX7 53 "LinClusterModel" "at" "[I") (by decide +kernel)) (fun _ h9 => h9) (v := .ref (ad 16)) (congrArg (fun z => some (va_rf z)) (((hM.eq hst.1).2.1 16 (by decide)).1)) dX7_look_238 ?_
                  refine lv_iload_n hx hb dX7_look_241 rfl (lv_at hl 2 rfl) ?_
                  refine ziald hx hb hK hP (hM.2.1 16 (by decide)).2.1 (show G.2.2 (ad 16) = 8 from (hM.2.1 16 (by decide)).2.2) (vp_in_nI (n := n8) (N := 8) (by omega) (by omega)) dX7_look_242 ?_
                  refine lv_topi (fun v327 ev327 => ?_)
                  rw [(nI_clamp (n := n8) (by omega))] at ev327
                  refine lv_if_eq (tgt := 263) hx hb dX7_look_243 (by decide) (fun c328 => ?_) (fun c328 => ?_)
                  · skip
                    have kn329 := ev327.symm.trans c328
                    exact W.vret hx hb hr (fun t ht hW => ⟨⟨S326, rfl, ⟨hst, hI⟩, by rw [ht]; exact hP, va_K.moved hW.alike hK, hD⟩, hS.F ht⟩) hS.2.2 dX7_look_263
                  · skip
                    refine lv_aload_n hx hb dX7_look_246 rfl (lv_at hl 1 rfl) ?_
                    refine zget (ci := 7) (C := RX7) (T := TX7) (N := 42) hx hb hts hi7 hown hK hP hM.1 rfl rfl 23 (by decide) (hts (.fieldLink RX7 74 "LinClusterModel" "ones" "[I") (by decide +kernel)) (fun _ h9 => h9) (v := .ref (ad 23)) (congrArg (fun z => some (va_rf z)) (((hM.eq hst.1).2.1 23 (by decide)).1)) dX7_look_247 ?_
                    refine lv_iload_n hx hb dX7_look_250 rfl (lv_at hl 2 rfl) ?_
                    refine ziald hx hb hK hP (hM.2.1 23 (by decide)).2.1 (show G.2.2 (ad 23) = 8 from (hM.2.1 23 (by decide)).2.2) (vp_in_nI (n := n8) (N := 8) (by omega) (by omega)) dX7_look_251 ?_
                    refine lv_topi (fun v330 ev330 => ?_)
                    rw [(nI_clamp (n := n8) (by omega))] at ev330
                    refine lv_sipush (v := 3000) hx hb dX7_look_252 (by decide) ?_
                    refine lv_icmp_ne (tgt := 263) hx hb dX7_look_255 (by decide) (fun c331 => ?_) (fun c331 => ?_)
                    · skip
                      exact W.vret hx hb hr (fun t ht hW => ⟨⟨S326, rfl, ⟨hst, hI⟩, by rw [ht]; exact hP, va_K.moved hW.alike hK, hD⟩, hS.F ht⟩) hS.2.2 dX7_look_263
                    · skip
                      have kn332 := ev330.symm.trans c331
                      refine lv_aload_n hx hb dX7_look_258 rfl (lv_at hl 1 rfl) ?_
                      refine lv_iload_n hx hb dX7_look_259 rfl (lv_at hl 2 rfl) ?_
                      refine zcallv (va_runV (As := [.int (nI n8)]) (rest := []) ⟨hx, hb, hml, hown, hts⟩ (c_X7_sleep l dC dI cy G S326 H.size mo ad n8 (hM.eq hst.1) hI (by omega)) (cwV 1 hts gX7_look_X7_sleep rfl rfl rfl (by decide +kernel) ⟨Nat.le_of_ble_eq_true rfl, Nat.le_of_ble_eq_true rfl⟩) (zpreV hK hP hD hN (zrecv7 hK hP hM.1)) rfl rfl hl.1 rfl (lv_room (Nat.le_of_ble_eq_true rfl)) dX7_look_260 ⟨Nat.le_of_ble_eq_true rfl, Nat.le_of_ble_eq_true rfl⟩) hS hD hA (fun S334 H locs hr333 hP hD hS => ?_)
                      have hst := hst.trans (hr333.1.mono (by decide) (by decide))
                      have hI := hr333.2
                      have kn335 := (congrFun (hr333.1.2.1 23 (by decide) (by decide)) n8).trans kn332
                      exact W.vret hx hb hr (fun t ht hW => ⟨⟨S334, rfl, ⟨hst, hI⟩, by rw [ht]; exact hP, va_K.moved hW.alike hK, hD⟩, hS.F ht⟩) hS.2.2 dX7_look_263
              · skip
                have kn336 := ev310.symm.trans c311
                refine lv_aload_n hx hb dX7_look_212 rfl (lv_at hl 1 rfl) ?_
                refine lv_iload_n hx hb dX7_look_213 rfl (lv_at hl 2 rfl) ?_
                refine lv_iload_n hx hb dX7_look_214 rfl (lv_at hl 3 rfl) ?_
                refine zcallv (va_runV (As := [.int (nI n8), .int v]) (rest := []) ⟨hx, hb, hml, hown, hts⟩ (c_X7_saying l dC dI cy G (zpi (zpi S (ad 22) n8 v197) (ad 23) n8 v301) H.size mo ad n8 v (hM.eq hst.1) hI (by omega) kn336) (cwV 2 hts gX7_look_X7_saying rfl rfl rfl (by decide +kernel) ⟨Nat.le_of_ble_eq_true rfl, Nat.le_of_ble_eq_true rfl⟩) (zpreV hK hP hD hN (zrecv7 hK hP hM.1)) rfl rfl hl.1 rfl (lv_room (Nat.le_of_ble_eq_true rfl)) dX7_look_215 ⟨Nat.le_of_ble_eq_true rfl, Nat.le_of_ble_eq_true rfl⟩) hS hD hA (fun S338 H locs hr337 hP hD hS => ?_)
                have hst := hst.trans (hr337.1.mono (by decide) (by decide))
                have hI := hr337.2
                refine lv_goto (tgt := 237) hx hb dX7_look_218 (by decide) ?_
                refine lv_aload_n hx hb dX7_look_237 rfl (lv_at hl 1 rfl) ?_
                refine zget (ci := 7) (C := RX7) (T := TX7) (N := 42) hx hb hts hi7 hown hK hP hM.1 rfl rfl 16 (by decide) (hts (.fieldLink RX7 53 "LinClusterModel" "at" "[I") (by decide +kernel)) (fun _ h9 => h9) (v := .ref (ad 16)) (congrArg (fun z => some (va_rf z)) (((hM.eq hst.1).2.1 16 (by decide)).1)) dX7_look_238 ?_
                refine lv_iload_n hx hb dX7_look_241 rfl (lv_at hl 2 rfl) ?_
                refine ziald hx hb hK hP (hM.2.1 16 (by decide)).2.1 (show G.2.2 (ad 16) = 8 from (hM.2.1 16 (by decide)).2.2) (vp_in_nI (n := n8) (N := 8) (by omega) (by omega)) dX7_look_242 ?_
                refine lv_topi (fun v339 ev339 => ?_)
                rw [(nI_clamp (n := n8) (by omega))] at ev339
                refine lv_if_eq (tgt := 263) hx hb dX7_look_243 (by decide) (fun c340 => ?_) (fun c340 => ?_)
                · skip
                  have kn341 := ev339.symm.trans c340
                  exact W.vret hx hb hr (fun t ht hW => ⟨⟨S338, rfl, ⟨hst, hI⟩, by rw [ht]; exact hP, va_K.moved hW.alike hK, hD⟩, hS.F ht⟩) hS.2.2 dX7_look_263
                · skip
                  refine lv_aload_n hx hb dX7_look_246 rfl (lv_at hl 1 rfl) ?_
                  refine zget (ci := 7) (C := RX7) (T := TX7) (N := 42) hx hb hts hi7 hown hK hP hM.1 rfl rfl 23 (by decide) (hts (.fieldLink RX7 74 "LinClusterModel" "ones" "[I") (by decide +kernel)) (fun _ h9 => h9) (v := .ref (ad 23)) (congrArg (fun z => some (va_rf z)) (((hM.eq hst.1).2.1 23 (by decide)).1)) dX7_look_247 ?_
                  refine lv_iload_n hx hb dX7_look_250 rfl (lv_at hl 2 rfl) ?_
                  refine ziald hx hb hK hP (hM.2.1 23 (by decide)).2.1 (show G.2.2 (ad 23) = 8 from (hM.2.1 23 (by decide)).2.2) (vp_in_nI (n := n8) (N := 8) (by omega) (by omega)) dX7_look_251 ?_
                  refine lv_topi (fun v342 ev342 => ?_)
                  rw [(nI_clamp (n := n8) (by omega))] at ev342
                  refine lv_sipush (v := 3000) hx hb dX7_look_252 (by decide) ?_
                  refine lv_icmp_ne (tgt := 263) hx hb dX7_look_255 (by decide) (fun c343 => ?_) (fun c343 => ?_)
                  · skip
                    exact W.vret hx hb hr (fun t ht hW => ⟨⟨S338, rfl, ⟨hst, hI⟩, by rw [ht]; exact hP, va_K.moved hW.alike hK, hD⟩, hS.F ht⟩) hS.2.2 dX7_look_263
                  · skip
                    have kn344 := ev342.symm.trans c343
                    refine lv_aload_n hx hb dX7_look_258 rfl (lv_at hl 1 rfl) ?_
                    refine lv_iload_n hx hb dX7_look_259 rfl (lv_at hl 2 rfl) ?_
                    refine zcallv (va_runV (As := [.int (nI n8)]) (rest := []) ⟨hx, hb, hml, hown, hts⟩ (c_X7_sleep l dC dI cy G S338 H.size mo ad n8 (hM.eq hst.1) hI (by omega)) (cwV 1 hts gX7_look_X7_sleep rfl rfl rfl (by decide +kernel) ⟨Nat.le_of_ble_eq_true rfl, Nat.le_of_ble_eq_true rfl⟩) (zpreV hK hP hD hN (zrecv7 hK hP hM.1)) rfl rfl hl.1 rfl (lv_room (Nat.le_of_ble_eq_true rfl)) dX7_look_260 ⟨Nat.le_of_ble_eq_true rfl, Nat.le_of_ble_eq_true rfl⟩) hS hD hA (fun S346 H locs hr345 hP hD hS => ?_)
                    have hst := hst.trans (hr345.1.mono (by decide) (by decide))
                    have hI := hr345.2
                    have kn347 := (congrFun (hr345.1.2.1 23 (by decide) (by decide)) n8).trans kn344
                    exact W.vret hx hb hr (fun t ht hW => ⟨⟨S346, rfl, ⟨hst, hI⟩, by rw [ht]; exact hP, va_K.moved hW.alike hK, hD⟩, hS.F ht⟩) hS.2.2 dX7_look_263
            · skip
              have kn348 := ev308.symm.trans c309
              refine lv_aload_n hx hb dX7_look_193 rfl (lv_at hl 1 rfl) ?_
              refine lv_iload_n hx hb dX7_look_194 rfl (lv_at hl 2 rfl) ?_
              refine lv_iload_n hx hb dX7_look_195 rfl (lv_at hl 3 rfl) ?_
              refine zcallv (va_runV (As := [.int (nI n8), .int v]) (rest := []) ⟨hx, hb, hml, hown, hts⟩ (c_X7_header l dC dI cy G (zpi (zpi S (ad 22) n8 v197) (ad 23) n8 v301) H.size mo ad n8 v (hM.eq hst.1) hI (by omega) kn348) (cwV 2 hts gX7_look_X7_header rfl rfl rfl (by decide +kernel) ⟨Nat.le_of_ble_eq_true rfl, Nat.le_of_ble_eq_true rfl⟩) (zpreV hK hP hD hN (zrecv7 hK hP hM.1)) rfl rfl hl.1 rfl (lv_room (Nat.le_of_ble_eq_true rfl)) dX7_look_196 ⟨Nat.le_of_ble_eq_true rfl, Nat.le_of_ble_eq_true rfl⟩) hS hD hA (fun S350 H locs hr349 hP hD hS => ?_)
              have hst := hst.trans (hr349.1.mono (by decide) (by decide))
              have hI := hr349.2
              refine lv_goto (tgt := 237) hx hb dX7_look_199 (by decide) ?_
              refine lv_aload_n hx hb dX7_look_237 rfl (lv_at hl 1 rfl) ?_
              refine zget (ci := 7) (C := RX7) (T := TX7) (N := 42) hx hb hts hi7 hown hK hP hM.1 rfl rfl 16 (by decide) (hts (.fieldLink RX7 53 "LinClusterModel" "at" "[I") (by decide +kernel)) (fun _ h9 => h9) (v := .ref (ad 16)) (congrArg (fun z => some (va_rf z)) (((hM.eq hst.1).2.1 16 (by decide)).1)) dX7_look_238 ?_
              refine lv_iload_n hx hb dX7_look_241 rfl (lv_at hl 2 rfl) ?_
              refine ziald hx hb hK hP (hM.2.1 16 (by decide)).2.1 (show G.2.2 (ad 16) = 8 from (hM.2.1 16 (by decide)).2.2) (vp_in_nI (n := n8) (N := 8) (by omega) (by omega)) dX7_look_242 ?_
              refine lv_topi (fun v351 ev351 => ?_)
              rw [(nI_clamp (n := n8) (by omega))] at ev351
              refine lv_if_eq (tgt := 263) hx hb dX7_look_243 (by decide) (fun c352 => ?_) (fun c352 => ?_)
              · skip
                have kn353 := ev351.symm.trans c352
                exact W.vret hx hb hr (fun t ht hW => ⟨⟨S350, rfl, ⟨hst, hI⟩, by rw [ht]; exact hP, va_K.moved hW.alike hK, hD⟩, hS.F ht⟩) hS.2.2 dX7_look_263
              · skip
                refine lv_aload_n hx hb dX7_look_246 rfl (lv_at hl 1 rfl) ?_
                refine zget (ci := 7) (C := RX7) (T := TX7) (N := 42) hx hb hts hi7 hown hK hP hM.1 rfl rfl 23 (by decide) (hts (.fieldLink RX7 74 "LinClusterModel" "ones" "[I") (by decide +kernel)) (fun _ h9 => h9) (v := .ref (ad 23)) (congrArg (fun z => some (va_rf z)) (((hM.eq hst.1).2.1 23 (by decide)).1)) dX7_look_247 ?_
                refine lv_iload_n hx hb dX7_look_250 rfl (lv_at hl 2 rfl) ?_
                refine ziald hx hb hK hP (hM.2.1 23 (by decide)).2.1 (show G.2.2 (ad 23) = 8 from (hM.2.1 23 (by decide)).2.2) (vp_in_nI (n := n8) (N := 8) (by omega) (by omega)) dX7_look_251 ?_
                refine lv_topi (fun v354 ev354 => ?_)
                rw [(nI_clamp (n := n8) (by omega))] at ev354
                refine lv_sipush (v := 3000) hx hb dX7_look_252 (by decide) ?_
                refine lv_icmp_ne (tgt := 263) hx hb dX7_look_255 (by decide) (fun c355 => ?_) (fun c355 => ?_)
                · skip
                  exact W.vret hx hb hr (fun t ht hW => ⟨⟨S350, rfl, ⟨hst, hI⟩, by rw [ht]; exact hP, va_K.moved hW.alike hK, hD⟩, hS.F ht⟩) hS.2.2 dX7_look_263
                · skip
                  have kn356 := ev354.symm.trans c355
                  refine lv_aload_n hx hb dX7_look_258 rfl (lv_at hl 1 rfl) ?_
                  refine lv_iload_n hx hb dX7_look_259 rfl (lv_at hl 2 rfl) ?_
                  refine zcallv (va_runV (As := [.int (nI n8)]) (rest := []) ⟨hx, hb, hml, hown, hts⟩ (c_X7_sleep l dC dI cy G S350 H.size mo ad n8 (hM.eq hst.1) hI (by omega)) (cwV 1 hts gX7_look_X7_sleep rfl rfl rfl (by decide +kernel) ⟨Nat.le_of_ble_eq_true rfl, Nat.le_of_ble_eq_true rfl⟩) (zpreV hK hP hD hN (zrecv7 hK hP hM.1)) rfl rfl hl.1 rfl (lv_room (Nat.le_of_ble_eq_true rfl)) dX7_look_260 ⟨Nat.le_of_ble_eq_true rfl, Nat.le_of_ble_eq_true rfl⟩) hS hD hA (fun S358 H locs hr357 hP hD hS => ?_)
                  have hst := hst.trans (hr357.1.mono (by decide) (by decide))
                  have hI := hr357.2
                  have kn359 := (congrFun (hr357.1.2.1 23 (by decide) (by decide)) n8).trans kn356
                  exact W.vret hx hb hr (fun t ht hW => ⟨⟨S358, rfl, ⟨hst, hI⟩, by rw [ht]; exact hP, va_K.moved hW.alike hK, hD⟩, hS.F ht⟩) hS.2.2 dX7_look_263
          · skip
            have kn360 := ev306.symm.trans c307
            refine lv_iload_n hx hb dX7_look_154 rfl (lv_at hl 3 rfl) ?_
            refine lv_iconst (v := 1) hx hb dX7_look_155 (by decide) ?_
            refine lv_icmp_ne (tgt := 237) hx hb dX7_look_156 (by decide) (fun c361 => ?_) (fun c361 => ?_)
            · skip
              refine lv_aload_n hx hb dX7_look_237 rfl (lv_at hl 1 rfl) ?_
              refine zget (ci := 7) (C := RX7) (T := TX7) (N := 42) hx hb hts hi7 hown hK hP hM.1 rfl rfl 16 (by decide) (hts (.fieldLink RX7 53 "LinClusterModel" "at" "[I") (by decide +kernel)) (fun _ h9 => h9) (v := .ref (ad 16)) (congrArg (fun z => some (va_rf z)) (((hM.eq hst.1).2.1 16 (by decide)).1)) dX7_look_238 ?_
              refine lv_iload_n hx hb dX7_look_241 rfl (lv_at hl 2 rfl) ?_
              refine ziald hx hb hK hP (hM.2.1 16 (by decide)).2.1 (show G.2.2 (ad 16) = 8 from (hM.2.1 16 (by decide)).2.2) (vp_in_nI (n := n8) (N := 8) (by omega) (by omega)) dX7_look_242 ?_
              refine lv_topi (fun v362 ev362 => ?_)
              rw [(nI_clamp (n := n8) (by omega))] at ev362
              obtain rfl : v362 = 2 := ev362.trans kn360
              refine lv_if_eq (tgt := 263) hx hb dX7_look_243 (by decide) (fun c363 => ?_) (fun c363 => ?_)
              · exact absurd c363 (by decide)
              · skip
                refine lv_aload_n hx hb dX7_look_246 rfl (lv_at hl 1 rfl) ?_
                refine zget (ci := 7) (C := RX7) (T := TX7) (N := 42) hx hb hts hi7 hown hK hP hM.1 rfl rfl 23 (by decide) (hts (.fieldLink RX7 74 "LinClusterModel" "ones" "[I") (by decide +kernel)) (fun _ h9 => h9) (v := .ref (ad 23)) (congrArg (fun z => some (va_rf z)) (((hM.eq hst.1).2.1 23 (by decide)).1)) dX7_look_247 ?_
                refine lv_iload_n hx hb dX7_look_250 rfl (lv_at hl 2 rfl) ?_
                refine ziald hx hb hK hP (hM.2.1 23 (by decide)).2.1 (show G.2.2 (ad 23) = 8 from (hM.2.1 23 (by decide)).2.2) (vp_in_nI (n := n8) (N := 8) (by omega) (by omega)) dX7_look_251 ?_
                refine lv_topi (fun v364 ev364 => ?_)
                rw [(nI_clamp (n := n8) (by omega))] at ev364
                refine lv_sipush (v := 3000) hx hb dX7_look_252 (by decide) ?_
                refine lv_icmp_ne (tgt := 263) hx hb dX7_look_255 (by decide) (fun c365 => ?_) (fun c365 => ?_)
                · skip
                  exact W.vret hx hb hr (fun t ht hW => ⟨⟨(zpi (zpi S (ad 22) n8 v197) (ad 23) n8 v301), rfl, ⟨hst, hI⟩, by rw [ht]; exact hP, va_K.moved hW.alike hK, hD⟩, hS.F ht⟩) hS.2.2 dX7_look_263
                · skip
                  have kn366 := ev364.symm.trans c365
                  refine lv_aload_n hx hb dX7_look_258 rfl (lv_at hl 1 rfl) ?_
                  refine lv_iload_n hx hb dX7_look_259 rfl (lv_at hl 2 rfl) ?_
                  refine zcallv (va_runV (As := [.int (nI n8)]) (rest := []) ⟨hx, hb, hml, hown, hts⟩ (c_X7_sleep l dC dI cy G (zpi (zpi S (ad 22) n8 v197) (ad 23) n8 v301) H.size mo ad n8 (hM.eq hst.1) hI (by omega)) (cwV 1 hts gX7_look_X7_sleep rfl rfl rfl (by decide +kernel) ⟨Nat.le_of_ble_eq_true rfl, Nat.le_of_ble_eq_true rfl⟩) (zpreV hK hP hD hN (zrecv7 hK hP hM.1)) rfl rfl hl.1 rfl (lv_room (Nat.le_of_ble_eq_true rfl)) dX7_look_260 ⟨Nat.le_of_ble_eq_true rfl, Nat.le_of_ble_eq_true rfl⟩) hS hD hA (fun S368 H locs hr367 hP hD hS => ?_)
                  have hst := hst.trans (hr367.1.mono (by decide) (by decide))
                  have hI := hr367.2
                  have kn369 := (congrFun (hr367.1.2.1 22 (by decide) (by decide)) n8).trans kn302
                  have kn370 := (congrFun (hr367.1.2.1 23 (by decide) (by decide)) n8).trans kn366
                  exact W.vret hx hb hr (fun t ht hW => ⟨⟨S368, rfl, ⟨hst, hI⟩, by rw [ht]; exact hP, va_K.moved hW.alike hK, hD⟩, hS.F ht⟩) hS.2.2 dX7_look_263
            · skip
              refine lv_aload_n hx hb dX7_look_159 rfl (lv_at hl 1 rfl) ?_
              refine zget (ci := 7) (C := RX7) (T := TX7) (N := 42) hx hb hts hi7 hown hK hP hM.1 rfl rfl 16 (by decide) (hts (.fieldLink RX7 53 "LinClusterModel" "at" "[I") (by decide +kernel)) (fun _ h9 => h9) (v := .ref (ad 16)) (congrArg (fun z => some (va_rf z)) (((hM.eq hst.1).2.1 16 (by decide)).1)) dX7_look_160 ?_
              refine lv_iload_n hx hb dX7_look_163 rfl (lv_at hl 2 rfl) ?_
              refine lv_iconst (v := 3) hx hb dX7_look_164 (by decide) ?_
              refine ziast (x := 3) hx hb hK hP hD hS (hM.2.1 16 (by decide)).2.1 (show G.2.2 (ad 16) = 8 from (hM.2.1 16 (by decide)).2.2) (vp_in_nI (n := n8) (N := 8) (by omega) (by omega)) dX7_look_165 (fun H locs hP hD hS => ?_)
              rw [(nI_clamp (n := n8) (by omega))] at hP hD
              have hst := zC.pa hM hst (k := 16) (by decide) (by decide) n8 3
              have kn371 := zpi_o hM (zpi (zpi S (ad 22) n8 v197) (ad 23) n8 v301) (i := 22) (k := 16) (by decide) (by decide) (by decide) n8 3 kn302
              have kn372 := zpi_o hM (zpi (zpi S (ad 22) n8 v197) (ad 23) n8 v301) (i := 23) (k := 16) (by decide) (by decide) (by decide) n8 3 kn303
              have hI := hI.at hM hn8 (v := 3) (by decide) (by decide)
              have kn373 := zpi_s (zpi (zpi S (ad 22) n8 v197) (ad 23) n8 v301) (ad 16) n8 3
              refine lv_aload_n hx hb dX7_look_166 rfl (lv_at hl 1 rfl) ?_
              refine zget (ci := 7) (C := RX7) (T := TX7) (N := 42) hx hb hts hi7 hown hK hP hM.1 rfl rfl 27 (by decide) (hts (.fieldLink RX7 86 "LinClusterModel" "characters" "[I") (by decide +kernel)) (fun _ h9 => h9) (v := .ref (ad 27)) (congrArg (fun z => some (va_rf z)) (((hM.eq hst.1).2.1 27 (by decide)).1)) dX7_look_167 ?_
              refine lv_iload_n hx hb dX7_look_170 rfl (lv_at hl 2 rfl) ?_
              refine lv_iconst (v := 0) hx hb dX7_look_171 (by decide) ?_
              refine ziast (x := 0) hx hb hK hP hD hS (hM.2.1 27 (by decide)).2.1 (show G.2.2 (ad 27) = 8 from (hM.2.1 27 (by decide)).2.2) (vp_in_nI (n := n8) (N := 8) (by omega) (by omega)) dX7_look_172 (fun H locs hP hD hS => ?_)
              rw [(nI_clamp (n := n8) (by omega))] at hP hD
              have hst := zC.pa hM hst (k := 27) (by decide) (by decide) n8 0
              have kn374 := zpi_o hM (zpi (zpi (zpi S (ad 22) n8 v197) (ad 23) n8 v301) (ad 16) n8 3) (i := 22) (k := 27) (by decide) (by decide) (by decide) n8 0 kn371
              have kn375 := zpi_o hM (zpi (zpi (zpi S (ad 22) n8 v197) (ad 23) n8 v301) (ad 16) n8 3) (i := 23) (k := 27) (by decide) (by decide) (by decide) n8 0 kn372
              have kn376 := zpi_o hM (zpi (zpi (zpi S (ad 22) n8 v197) (ad 23) n8 v301) (ad 16) n8 3) (i := 16) (k := 27) (by decide) (by decide) (by decide) n8 0 kn373
              have hI := hI.ix hn8
              have hI := hI.ch hM 0
              have kn377 := zpi_s (zpi (zpi (zpi S (ad 22) n8 v197) (ad 23) n8 v301) (ad 16) n8 3) (ad 27) n8 0
              have hI := hI.idle (by rw [kn376]; decide) (by rw [kn376]; decide)
              refine lv_aload_n hx hb dX7_look_173 rfl (lv_at hl 1 rfl) ?_
              refine zget (ci := 7) (C := RX7) (T := TX7) (N := 42) hx hb hts hi7 hown hK hP hM.1 rfl rfl 25 (by decide) (hts (.fieldLink RX7 80 "LinClusterModel" "bitsSoFar" "[I") (by decide +kernel)) (fun _ h9 => h9) (v := .ref (ad 25)) (congrArg (fun z => some (va_rf z)) (((hM.eq hst.1).2.1 25 (by decide)).1)) dX7_look_174 ?_
              refine lv_iload_n hx hb dX7_look_177 rfl (lv_at hl 2 rfl) ?_
              refine lv_iconst (v := 0) hx hb dX7_look_178 (by decide) ?_
              refine ziast (x := 0) hx hb hK hP hD hS (hM.2.1 25 (by decide)).2.1 (show G.2.2 (ad 25) = 8 from (hM.2.1 25 (by decide)).2.2) (vp_in_nI (n := n8) (N := 8) (by omega) (by omega)) dX7_look_179 (fun H locs hP hD hS => ?_)
              rw [(nI_clamp (n := n8) (by omega))] at hP hD
              have hst := zC.pa hM hst (k := 25) (by decide) (by decide) n8 0
              have kn378 := zpi_o hM (zpi (zpi (zpi (zpi S (ad 22) n8 v197) (ad 23) n8 v301) (ad 16) n8 3) (ad 27) n8 0) (i := 22) (k := 25) (by decide) (by decide) (by decide) n8 0 kn374
              have kn379 := zpi_o hM (zpi (zpi (zpi (zpi S (ad 22) n8 v197) (ad 23) n8 v301) (ad 16) n8 3) (ad 27) n8 0) (i := 23) (k := 25) (by decide) (by decide) (by decide) n8 0 kn375
              have kn380 := zpi_o hM (zpi (zpi (zpi (zpi S (ad 22) n8 v197) (ad 23) n8 v301) (ad 16) n8 3) (ad 27) n8 0) (i := 16) (k := 25) (by decide) (by decide) (by decide) n8 0 kn376
              have kn381 := zpi_o hM (zpi (zpi (zpi (zpi S (ad 22) n8 v197) (ad 23) n8 v301) (ad 16) n8 3) (ad 27) n8 0) (i := 27) (k := 25) (by decide) (by decide) (by decide) n8 0 kn377
              have hI := hI.free hM (k := 25) (by decide) (by decide) n8 0
              have kn382 := zpi_s (zpi (zpi (zpi (zpi S (ad 22) n8 v197) (ad 23) n8 v301) (ad 16) n8 3) (ad 27) n8 0) (ad 25) n8 0
              refine lv_goto (tgt := 237) hx hb dX7_look_180 (by decide) ?_
              refine lv_aload_n hx hb dX7_look_237 rfl (lv_at hl 1 rfl) ?_
              refine zget (ci := 7) (C := RX7) (T := TX7) (N := 42) hx hb hts hi7 hown hK hP hM.1 rfl rfl 16 (by decide) (hts (.fieldLink RX7 53 "LinClusterModel" "at" "[I") (by decide +kernel)) (fun _ h9 => h9) (v := .ref (ad 16)) (congrArg (fun z => some (va_rf z)) (((hM.eq hst.1).2.1 16 (by decide)).1)) dX7_look_238 ?_
              refine lv_iload_n hx hb dX7_look_241 rfl (lv_at hl 2 rfl) ?_
              refine ziald hx hb hK hP (hM.2.1 16 (by decide)).2.1 (show G.2.2 (ad 16) = 8 from (hM.2.1 16 (by decide)).2.2) (vp_in_nI (n := n8) (N := 8) (by omega) (by omega)) dX7_look_242 ?_
              refine lv_topi (fun v383 ev383 => ?_)
              rw [(nI_clamp (n := n8) (by omega))] at ev383
              obtain rfl : v383 = 3 := ev383.trans kn380
              refine lv_if_eq (tgt := 263) hx hb dX7_look_243 (by decide) (fun c384 => ?_) (fun c384 => ?_)
              · exact absurd c384 (by decide)
              · skip
                refine lv_aload_n hx hb dX7_look_246 rfl (lv_at hl 1 rfl) ?_
                refine zget (ci := 7) (C := RX7) (T := TX7) (N := 42) hx hb hts hi7 hown hK hP hM.1 rfl rfl 23 (by decide) (hts (.fieldLink RX7 74 "LinClusterModel" "ones" "[I") (by decide +kernel)) (fun _ h9 => h9) (v := .ref (ad 23)) (congrArg (fun z => some (va_rf z)) (((hM.eq hst.1).2.1 23 (by decide)).1)) dX7_look_247 ?_
                refine lv_iload_n hx hb dX7_look_250 rfl (lv_at hl 2 rfl) ?_
                refine ziald hx hb hK hP (hM.2.1 23 (by decide)).2.1 (show G.2.2 (ad 23) = 8 from (hM.2.1 23 (by decide)).2.2) (vp_in_nI (n := n8) (N := 8) (by omega) (by omega)) dX7_look_251 ?_
                refine lv_topi (fun v385 ev385 => ?_)
                rw [(nI_clamp (n := n8) (by omega))] at ev385
                refine lv_sipush (v := 3000) hx hb dX7_look_252 (by decide) ?_
                refine lv_icmp_ne (tgt := 263) hx hb dX7_look_255 (by decide) (fun c386 => ?_) (fun c386 => ?_)
                · skip
                  exact W.vret hx hb hr (fun t ht hW => ⟨⟨(zpi (zpi (zpi (zpi (zpi S (ad 22) n8 v197) (ad 23) n8 v301) (ad 16) n8 3) (ad 27) n8 0) (ad 25) n8 0), rfl, ⟨hst, hI⟩, by rw [ht]; exact hP, va_K.moved hW.alike hK, hD⟩, hS.F ht⟩) hS.2.2 dX7_look_263
                · skip
                  have kn387 := ev385.symm.trans c386
                  refine lv_aload_n hx hb dX7_look_258 rfl (lv_at hl 1 rfl) ?_
                  refine lv_iload_n hx hb dX7_look_259 rfl (lv_at hl 2 rfl) ?_
                  refine zcallv (va_runV (As := [.int (nI n8)]) (rest := []) ⟨hx, hb, hml, hown, hts⟩ (c_X7_sleep l dC dI cy G (zpi (zpi (zpi (zpi (zpi S (ad 22) n8 v197) (ad 23) n8 v301) (ad 16) n8 3) (ad 27) n8 0) (ad 25) n8 0) H.size mo ad n8 (hM.eq hst.1) hI (by omega)) (cwV 1 hts gX7_look_X7_sleep rfl rfl rfl (by decide +kernel) ⟨Nat.le_of_ble_eq_true rfl, Nat.le_of_ble_eq_true rfl⟩) (zpreV hK hP hD hN (zrecv7 hK hP hM.1)) rfl rfl hl.1 rfl (lv_room (Nat.le_of_ble_eq_true rfl)) dX7_look_260 ⟨Nat.le_of_ble_eq_true rfl, Nat.le_of_ble_eq_true rfl⟩) hS hD hA (fun S389 H locs hr388 hP hD hS => ?_)
                  have hst := hst.trans (hr388.1.mono (by decide) (by decide))
                  have hI := hr388.2
                  have kn390 := (congrFun (hr388.1.2.1 22 (by decide) (by decide)) n8).trans kn378
                  have kn391 := (congrFun (hr388.1.2.1 23 (by decide) (by decide)) n8).trans kn387
                  have kn392 := (congrFun (hr388.1.2.1 27 (by decide) (by decide)) n8).trans kn381
                  have kn393 := (congrFun (hr388.1.2.1 25 (by decide) (by decide)) n8).trans kn382
                  exact W.vret hx hb hr (fun t ht hW => ⟨⟨S389, rfl, ⟨hst, hI⟩, by rw [ht]; exact hP, va_K.moved hW.alike hK, hD⟩, hS.F ht⟩) hS.2.2 dX7_look_263
        · skip
          have kn394 := ev304.symm.trans c305
          refine lv_aload_n hx hb dX7_look_119 rfl (lv_at hl 1 rfl) ?_
          refine zget (ci := 7) (C := RX7) (T := TX7) (N := 42) hx hb hts hi7 hown hK hP hM.1 rfl rfl 16 (by decide) (hts (.fieldLink RX7 53 "LinClusterModel" "at" "[I") (by decide +kernel)) (fun _ h9 => h9) (v := .ref (ad 16)) (congrArg (fun z => some (va_rf z)) (((hM.eq hst.1).2.1 16 (by decide)).1)) dX7_look_120 ?_
          refine lv_iload_n hx hb dX7_look_123 rfl (lv_at hl 2 rfl) ?_
          refine ziald hx hb hK hP (hM.2.1 16 (by decide)).2.1 (show G.2.2 (ad 16) = 8 from (hM.2.1 16 (by decide)).2.2) (vp_in_nI (n := n8) (N := 8) (by omega) (by omega)) dX7_look_124 ?_
          refine lv_topi (fun v395 ev395 => ?_)
          rw [(nI_clamp (n := n8) (by omega))] at ev395
          refine lv_iconst (v := 5) hx hb dX7_look_125 (by decide) ?_
          refine lv_icmp_ne (tgt := 134) hx hb dX7_look_126 (by decide) (fun c396 => ?_) (fun c396 => ?_)
          · skip
            refine lv_aload_n hx hb dX7_look_134 rfl (lv_at hl 1 rfl) ?_
            refine zget (ci := 7) (C := RX7) (T := TX7) (N := 42) hx hb hts hi7 hown hK hP hM.1 rfl rfl 16 (by decide) (hts (.fieldLink RX7 53 "LinClusterModel" "at" "[I") (by decide +kernel)) (fun _ h9 => h9) (v := .ref (ad 16)) (congrArg (fun z => some (va_rf z)) (((hM.eq hst.1).2.1 16 (by decide)).1)) dX7_look_135 ?_
            refine lv_iload_n hx hb dX7_look_138 rfl (lv_at hl 2 rfl) ?_
            refine lv_iconst (v := 2) hx hb dX7_look_139 (by decide) ?_
            refine ziast (x := 2) hx hb hK hP hD hS (hM.2.1 16 (by decide)).2.1 (show G.2.2 (ad 16) = 8 from (hM.2.1 16 (by decide)).2.2) (vp_in_nI (n := n8) (N := 8) (by omega) (by omega)) dX7_look_140 (fun H locs hP hD hS => ?_)
            rw [(nI_clamp (n := n8) (by omega))] at hP hD
            have hst := zC.pa hM hst (k := 16) (by decide) (by decide) n8 2
            have kn397 := zpi_o hM (zpi (zpi S (ad 22) n8 v197) (ad 23) n8 v301) (i := 22) (k := 16) (by decide) (by decide) (by decide) n8 2 kn394
            have kn398 := zpi_o hM (zpi (zpi S (ad 22) n8 v197) (ad 23) n8 v301) (i := 23) (k := 16) (by decide) (by decide) (by decide) n8 2 kn303
            have hI := hI.at hM hn8 (v := 2) (by decide) (by decide)
            have kn399 := zpi_s (zpi (zpi S (ad 22) n8 v197) (ad 23) n8 v301) (ad 16) n8 2
            refine lv_goto (tgt := 237) hx hb dX7_look_141 (by decide) ?_
            refine lv_aload_n hx hb dX7_look_237 rfl (lv_at hl 1 rfl) ?_
            refine zget (ci := 7) (C := RX7) (T := TX7) (N := 42) hx hb hts hi7 hown hK hP hM.1 rfl rfl 16 (by decide) (hts (.fieldLink RX7 53 "LinClusterModel" "at" "[I") (by decide +kernel)) (fun _ h9 => h9) (v := .ref (ad 16)) (congrArg (fun z => some (va_rf z)) (((hM.eq hst.1).2.1 16 (by decide)).1)) dX7_look_238 ?_
            refine lv_iload_n hx hb dX7_look_241 rfl (lv_at hl 2 rfl) ?_
            refine ziald hx hb hK hP (hM.2.1 16 (by decide)).2.1 (show G.2.2 (ad 16) = 8 from (hM.2.1 16 (by decide)).2.2) (vp_in_nI (n := n8) (N := 8) (by omega) (by omega)) dX7_look_242 ?_
            refine lv_topi (fun v400 ev400 => ?_)
            rw [(nI_clamp (n := n8) (by omega))] at ev400
            obtain rfl : v400 = 2 := ev400.trans kn399
            refine lv_if_eq (tgt := 263) hx hb dX7_look_243 (by decide) (fun c401 => ?_) (fun c401 => ?_)
            · exact absurd c401 (by decide)
            · skip
              refine lv_aload_n hx hb dX7_look_246 rfl (lv_at hl 1 rfl) ?_
              refine zget (ci := 7) (C := RX7) (T := TX7) (N := 42) hx hb hts hi7 hown hK hP hM.1 rfl rfl 23 (by decide) (hts (.fieldLink RX7 74 "LinClusterModel" "ones" "[I") (by decide +kernel)) (fun _ h9 => h9) (v := .ref (ad 23)) (congrArg (fun z => some (va_rf z)) (((hM.eq hst.1).2.1 23 (by decide)).1)) dX7_look_247 ?_
              refine lv_iload_n hx hb dX7_look_250 rfl (lv_at hl 2 rfl) ?_
              refine ziald hx hb hK hP (hM.2.1 23 (by decide)).2.1 (show G.2.2 (ad 23) = 8 from (hM.2.1 23 (by decide)).2.2) (vp_in_nI (n := n8) (N := 8) (by omega) (by omega)) dX7_look_251 ?_
              refine lv_topi (fun v402 ev402 => ?_)
              rw [(nI_clamp (n := n8) (by omega))] at ev402
              refine lv_sipush (v := 3000) hx hb dX7_look_252 (by decide) ?_
              refine lv_icmp_ne (tgt := 263) hx hb dX7_look_255 (by decide) (fun c403 => ?_) (fun c403 => ?_)
              · skip
                exact W.vret hx hb hr (fun t ht hW => ⟨⟨(zpi (zpi (zpi S (ad 22) n8 v197) (ad 23) n8 v301) (ad 16) n8 2), rfl, ⟨hst, hI⟩, by rw [ht]; exact hP, va_K.moved hW.alike hK, hD⟩, hS.F ht⟩) hS.2.2 dX7_look_263
              · skip
                have kn404 := ev402.symm.trans c403
                refine lv_aload_n hx hb dX7_look_258 rfl (lv_at hl 1 rfl) ?_
                refine lv_iload_n hx hb dX7_look_259 rfl (lv_at hl 2 rfl) ?_
                refine zcallv (va_runV (As := [.int (nI n8)]) (rest := []) ⟨hx, hb, hml, hown, hts⟩ (c_X7_sleep l dC dI cy G (zpi (zpi (zpi S (ad 22) n8 v197) (ad 23) n8 v301) (ad 16) n8 2) H.size mo ad n8 (hM.eq hst.1) hI (by omega)) (cwV 1 hts gX7_look_X7_sleep rfl rfl rfl (by decide +kernel) ⟨Nat.le_of_ble_eq_true rfl, Nat.le_of_ble_eq_true rfl⟩) (zpreV hK hP hD hN (zrecv7 hK hP hM.1)) rfl rfl hl.1 rfl (lv_room (Nat.le_of_ble_eq_true rfl)) dX7_look_260 ⟨Nat.le_of_ble_eq_true rfl, Nat.le_of_ble_eq_true rfl⟩) hS hD hA (fun S406 H locs hr405 hP hD hS => ?_)
                have hst := hst.trans (hr405.1.mono (by decide) (by decide))
                have hI := hr405.2
                have kn407 := (congrFun (hr405.1.2.1 22 (by decide) (by decide)) n8).trans kn397
                have kn408 := (congrFun (hr405.1.2.1 23 (by decide) (by decide)) n8).trans kn404
                exact W.vret hx hb hr (fun t ht hW => ⟨⟨S406, rfl, ⟨hst, hI⟩, by rw [ht]; exact hP, va_K.moved hW.alike hK, hD⟩, hS.F ht⟩) hS.2.2 dX7_look_263
          · skip
            have kn409 := ev395.symm.trans c396
            refine lv_aload_n hx hb dX7_look_129 rfl (lv_at hl 1 rfl) ?_
            refine lv_iload_n hx hb dX7_look_130 rfl (lv_at hl 2 rfl) ?_
            refine zcallv (va_runV (As := [.int (nI n8)]) (rest := []) ⟨hx, hb, hml, hown, hts⟩ (c_X7_error l dC dI cy G (zpi (zpi S (ad 22) n8 v197) (ad 23) n8 v301) H.size mo ad n8 (hM.eq hst.1) (by omega)) (cwV 1 hts gX7_look_X7_error rfl rfl rfl (by decide +kernel) ⟨Nat.le_of_ble_eq_true rfl, Nat.le_of_ble_eq_true rfl⟩) (zpreV hK hP hD hN (zrecv7 hK hP hM.1)) rfl rfl hl.1 rfl (lv_room (Nat.le_of_ble_eq_true rfl)) dX7_look_131 ⟨Nat.le_of_ble_eq_true rfl, Nat.le_of_ble_eq_true rfl⟩) hS hD hA (fun S411 H locs hr410 hP hD hS => ?_)
            have hst := hst.trans (hr410.mono (by decide) (by decide))
            have hI := hI.c hr410 (by decide) (by decide)
            have kn412 := (congrFun (hr410.2.1 22 (by decide) (by decide)) n8).trans kn394
            have kn413 := (congrFun (hr410.2.1 23 (by decide) (by decide)) n8).trans kn303
            have kn414 := (congrFun (hr410.2.1 16 (by decide) (by decide)) n8).trans kn409
            refine lv_aload_n hx hb dX7_look_134 rfl (lv_at hl 1 rfl) ?_
            refine zget (ci := 7) (C := RX7) (T := TX7) (N := 42) hx hb hts hi7 hown hK hP hM.1 rfl rfl 16 (by decide) (hts (.fieldLink RX7 53 "LinClusterModel" "at" "[I") (by decide +kernel)) (fun _ h9 => h9) (v := .ref (ad 16)) (congrArg (fun z => some (va_rf z)) (((hM.eq hst.1).2.1 16 (by decide)).1)) dX7_look_135 ?_
            refine lv_iload_n hx hb dX7_look_138 rfl (lv_at hl 2 rfl) ?_
            refine lv_iconst (v := 2) hx hb dX7_look_139 (by decide) ?_
            refine ziast (x := 2) hx hb hK hP hD hS (hM.2.1 16 (by decide)).2.1 (show G.2.2 (ad 16) = 8 from (hM.2.1 16 (by decide)).2.2) (vp_in_nI (n := n8) (N := 8) (by omega) (by omega)) dX7_look_140 (fun H locs hP hD hS => ?_)
            rw [(nI_clamp (n := n8) (by omega))] at hP hD
            have hst := zC.pa hM hst (k := 16) (by decide) (by decide) n8 2
            have kn415 := zpi_o hM S411 (i := 22) (k := 16) (by decide) (by decide) (by decide) n8 2 kn412
            have kn416 := zpi_o hM S411 (i := 23) (k := 16) (by decide) (by decide) (by decide) n8 2 kn413
            have hI := hI.at hM hn8 (v := 2) (by decide) (by decide)
            have kn417 := zpi_s S411 (ad 16) n8 2
            refine lv_goto (tgt := 237) hx hb dX7_look_141 (by decide) ?_
            refine lv_aload_n hx hb dX7_look_237 rfl (lv_at hl 1 rfl) ?_
            refine zget (ci := 7) (C := RX7) (T := TX7) (N := 42) hx hb hts hi7 hown hK hP hM.1 rfl rfl 16 (by decide) (hts (.fieldLink RX7 53 "LinClusterModel" "at" "[I") (by decide +kernel)) (fun _ h9 => h9) (v := .ref (ad 16)) (congrArg (fun z => some (va_rf z)) (((hM.eq hst.1).2.1 16 (by decide)).1)) dX7_look_238 ?_
            refine lv_iload_n hx hb dX7_look_241 rfl (lv_at hl 2 rfl) ?_
            refine ziald hx hb hK hP (hM.2.1 16 (by decide)).2.1 (show G.2.2 (ad 16) = 8 from (hM.2.1 16 (by decide)).2.2) (vp_in_nI (n := n8) (N := 8) (by omega) (by omega)) dX7_look_242 ?_
            refine lv_topi (fun v418 ev418 => ?_)
            rw [(nI_clamp (n := n8) (by omega))] at ev418
            obtain rfl : v418 = 2 := ev418.trans kn417
            refine lv_if_eq (tgt := 263) hx hb dX7_look_243 (by decide) (fun c419 => ?_) (fun c419 => ?_)
            · exact absurd c419 (by decide)
            · skip
              refine lv_aload_n hx hb dX7_look_246 rfl (lv_at hl 1 rfl) ?_
              refine zget (ci := 7) (C := RX7) (T := TX7) (N := 42) hx hb hts hi7 hown hK hP hM.1 rfl rfl 23 (by decide) (hts (.fieldLink RX7 74 "LinClusterModel" "ones" "[I") (by decide +kernel)) (fun _ h9 => h9) (v := .ref (ad 23)) (congrArg (fun z => some (va_rf z)) (((hM.eq hst.1).2.1 23 (by decide)).1)) dX7_look_247 ?_
              refine lv_iload_n hx hb dX7_look_250 rfl (lv_at hl 2 rfl) ?_
              refine ziald hx hb hK hP (hM.2.1 23 (by decide)).2.1 (show G.2.2 (ad 23) = 8 from (hM.2.1 23 (by decide)).2.2) (vp_in_nI (n := n8) (N := 8) (by omega) (by omega)) dX7_look_251 ?_
              refine lv_topi (fun v420 ev420 => ?_)
              rw [(nI_clamp (n := n8) (by omega))] at ev420
              refine lv_sipush (v := 3000) hx hb dX7_look_252 (by decide) ?_
              refine lv_icmp_ne (tgt := 263) hx hb dX7_look_255 (by decide) (fun c421 => ?_) (fun c421 => ?_)
              · skip
                exact W.vret hx hb hr (fun t ht hW => ⟨⟨(zpi S411 (ad 16) n8 2), rfl, ⟨hst, hI⟩, by rw [ht]; exact hP, va_K.moved hW.alike hK, hD⟩, hS.F ht⟩) hS.2.2 dX7_look_263
              · skip
                have kn422 := ev420.symm.trans c421
                refine lv_aload_n hx hb dX7_look_258 rfl (lv_at hl 1 rfl) ?_
                refine lv_iload_n hx hb dX7_look_259 rfl (lv_at hl 2 rfl) ?_
                refine zcallv (va_runV (As := [.int (nI n8)]) (rest := []) ⟨hx, hb, hml, hown, hts⟩ (c_X7_sleep l dC dI cy G (zpi S411 (ad 16) n8 2) H.size mo ad n8 (hM.eq hst.1) hI (by omega)) (cwV 1 hts gX7_look_X7_sleep rfl rfl rfl (by decide +kernel) ⟨Nat.le_of_ble_eq_true rfl, Nat.le_of_ble_eq_true rfl⟩) (zpreV hK hP hD hN (zrecv7 hK hP hM.1)) rfl rfl hl.1 rfl (lv_room (Nat.le_of_ble_eq_true rfl)) dX7_look_260 ⟨Nat.le_of_ble_eq_true rfl, Nat.le_of_ble_eq_true rfl⟩) hS hD hA (fun S424 H locs hr423 hP hD hS => ?_)
                have hst := hst.trans (hr423.1.mono (by decide) (by decide))
                have hI := hr423.2
                have kn425 := (congrFun (hr423.1.2.1 22 (by decide) (by decide)) n8).trans kn415
                have kn426 := (congrFun (hr423.1.2.1 23 (by decide) (by decide)) n8).trans kn422
                exact W.vret hx hb hr (fun t ht hW => ⟨⟨S424, rfl, ⟨hst, hI⟩, by rw [ht]; exact hP, va_K.moved hW.alike hK, hD⟩, hS.F ht⟩) hS.2.2 dX7_look_263
    · skip
      have kn427 := ev199.symm.trans c200
      refine lv_iload_n hx hb dX7_look_38 rfl (lv_at hl 3 rfl) ?_
      refine lv_iconst (v := 1) hx hb dX7_look_39 (by decide) ?_
      refine lv_icmp_ne (tgt := 84) hx hb dX7_look_40 (by decide) (fun c428 => ?_) (fun c428 => ?_)
      · skip
        exact W.vret hx hb hr (fun t ht hW => ⟨⟨(zpi S (ad 22) n8 v197), rfl, ⟨hst, hI⟩, by rw [ht]; exact hP, va_K.moved hW.alike hK, hD⟩, hS.F ht⟩) hS.2.2 dX7_look_84
      · skip
        refine lv_iload_n hx hb dX7_look_43 rfl (lv_at hl 0 rfl) ?_
        refine lv_iconst (v := 5) hx hb dX7_look_44 (by decide) ?_
        refine lv_icmp_lt (tgt := 84) hx hb dX7_look_45 (by decide) (fun c429 => ?_) (fun c429 => ?_)
        · skip
          exact W.vret hx hb hr (fun t ht hW => ⟨⟨(zpi S (ad 22) n8 v197), rfl, ⟨hst, hI⟩, by rw [ht]; exact hP, va_K.moved hW.alike hK, hD⟩, hS.F ht⟩) hS.2.2 dX7_look_84
        · skip
          refine lv_aload_n hx hb dX7_look_48 rfl (lv_at hl 1 rfl) ?_
          refine zget (ci := 7) (C := RX7) (T := TX7) (N := 42) hx hb hts hi7 hown hK hP hM.1 rfl rfl 16 (by decide) (hts (.fieldLink RX7 53 "LinClusterModel" "at" "[I") (by decide +kernel)) (fun _ h9 => h9) (v := .ref (ad 16)) (congrArg (fun z => some (va_rf z)) (((hM.eq hst.1).2.1 16 (by decide)).1)) dX7_look_49 ?_
          refine lv_iload_n hx hb dX7_look_52 rfl (lv_at hl 2 rfl) ?_
          refine lv_iconst (v := 1) hx hb dX7_look_53 (by decide) ?_
          refine ziast (x := 1) hx hb hK hP hD hS (hM.2.1 16 (by decide)).2.1 (show G.2.2 (ad 16) = 8 from (hM.2.1 16 (by decide)).2.2) (vp_in_nI (n := n8) (N := 8) (by omega) (by omega)) dX7_look_54 (fun H locs hP hD hS => ?_)
          rw [(nI_clamp (n := n8) (by omega))] at hP hD
          have hst := zC.pa hM hst (k := 16) (by decide) (by decide) n8 1
          have kn430 := zpi_o hM (zpi S (ad 22) n8 v197) (i := 22) (k := 16) (by decide) (by decide) (by decide) n8 1 kn198
          have hI := hI.at hM hn8 (v := 1) (by decide) (by decide)
          have kn431 := zpi_s (zpi S (ad 22) n8 v197) (ad 16) n8 1
          refine lv_aload_n hx hb dX7_look_55 rfl (lv_at hl 1 rfl) ?_
          refine zget (ci := 7) (C := RX7) (T := TX7) (N := 42) hx hb hts hi7 hown hK hP hM.1 rfl rfl 23 (by decide) (hts (.fieldLink RX7 74 "LinClusterModel" "ones" "[I") (by decide +kernel)) (fun _ h9 => h9) (v := .ref (ad 23)) (congrArg (fun z => some (va_rf z)) (((hM.eq hst.1).2.1 23 (by decide)).1)) dX7_look_56 ?_
          refine lv_iload_n hx hb dX7_look_59 rfl (lv_at hl 2 rfl) ?_
          refine lv_iconst (v := 0) hx hb dX7_look_60 (by decide) ?_
          refine ziast (x := 0) hx hb hK hP hD hS (hM.2.1 23 (by decide)).2.1 (show G.2.2 (ad 23) = 8 from (hM.2.1 23 (by decide)).2.2) (vp_in_nI (n := n8) (N := 8) (by omega) (by omega)) dX7_look_61 (fun H locs hP hD hS => ?_)
          rw [(nI_clamp (n := n8) (by omega))] at hP hD
          have hst := zC.pa hM hst (k := 23) (by decide) (by decide) n8 0
          have kn432 := zpi_o hM (zpi (zpi S (ad 22) n8 v197) (ad 16) n8 1) (i := 22) (k := 23) (by decide) (by decide) (by decide) n8 0 kn430
          have kn433 := zpi_o hM (zpi (zpi S (ad 22) n8 v197) (ad 16) n8 1) (i := 16) (k := 23) (by decide) (by decide) (by decide) n8 0 kn431
          have hI := hI.free hM (k := 23) (by decide) (by decide) n8 0
          have kn434 := zpi_s (zpi (zpi S (ad 22) n8 v197) (ad 16) n8 1) (ad 23) n8 0
          refine lv_aload_n hx hb dX7_look_62 rfl (lv_at hl 1 rfl) ?_
          refine lv_iload_n hx hb dX7_look_63 rfl (lv_at hl 2 rfl) ?_
          refine lv_if_ne (tgt := 77) hx hb dX7_look_64 (by decide) (fun c435 => ?_) (fun c435 => ?_)
          · skip
            refine lv_aload_n hx hb dX7_look_77 rfl (lv_at hl 1 rfl) ?_
            refine zget (ci := 7) (C := RX7) (T := TX7) (N := 42) hx hb hts hi7 hown hK hP hM.1 rfl rfl 37 (by decide) (hts (.fieldLink RX7 161 "LinClusterModel" "startsAt" "I") (by decide +kernel)) (fun _ h9 => h9) rfl dX7_look_78 ?_
            refine lv_topi (fun v436 ev436 => ?_)
            refine zputi (ci := 7) (v := v436) (ty := .int) (C := RX7) (T := TX7) (N := 42) hx hb hts hi7 tyX7 tyX7_ok nmX7 hown hK hP hD hS hM.1 rfl rfl 37 (by decide) (hts (.fieldLink RX7 161 "LinClusterModel" "startsAt" "I") (by decide +kernel)) (fun _ h9 => h9) rfl (by decide +kernel) rfl rfl (Nat.le_of_ble_eq_true rfl) rfl dX7_look_81 (fun H locs hP hD hS => ?_)
            have hst := zC.pf hM hst (k := 37) (by decide) v436
            have kn437 := zpi_f hM (zpi (zpi (zpi S (ad 22) n8 v197) (ad 16) n8 1) (ad 23) n8 0) (i := 22) (by decide) 37 v436 kn432
            have kn438 := zpi_f hM (zpi (zpi (zpi S (ad 22) n8 v197) (ad 16) n8 1) (ad 23) n8 0) (i := 16) (by decide) 37 v436 kn433
            have kn439 := zpi_f hM (zpi (zpi (zpi S (ad 22) n8 v197) (ad 16) n8 1) (ad 23) n8 0) (i := 23) (by decide) 37 v436 kn434
            have hI := hI.ffree hM (k := 37) (by decide) v436
            have kn440 := zpi_s (zpi (zpi (zpi S (ad 22) n8 v197) (ad 16) n8 1) (ad 23) n8 0) mo 37 v436
            exact W.vret hx hb hr (fun t ht hW => ⟨⟨(zpi (zpi (zpi (zpi S (ad 22) n8 v197) (ad 16) n8 1) (ad 23) n8 0) mo 37 v436), rfl, ⟨hst, hI⟩, by rw [ht]; exact hP, va_K.moved hW.alike hK, hD⟩, hS.F ht⟩) hS.2.2 dX7_look_84
          · skip
            refine lv_aload_n hx hb dX7_look_67 rfl (lv_at hl 1 rfl) ?_
            refine zget (ci := 7) (C := RX7) (T := TX7) (N := 42) hx hb hts hi7 hown hK hP hM.1 rfl rfl 33 (by decide) (hts (.fieldLink RX7 128 "LinClusterModel" "time" "I") (by decide +kernel)) (fun _ h9 => h9) rfl dX7_look_68 ?_
            refine lv_topi (fun v441 ev441 => ?_)
            refine lv_bipush (v := 51) hx hb dX7_look_71 (by decide) ?_
            refine lv_iadd hx hb dX7_look_73 ?_
            refine lv_topi (fun v442 ev442 => ?_)
            refine lv_goto (tgt := 81) hx hb dX7_look_74 (by decide) ?_
            refine zputi (ci := 7) (v := v442) (ty := .int) (C := RX7) (T := TX7) (N := 42) hx hb hts hi7 tyX7 tyX7_ok nmX7 hown hK hP hD hS hM.1 rfl rfl 37 (by decide) (hts (.fieldLink RX7 161 "LinClusterModel" "startsAt" "I") (by decide +kernel)) (fun _ h9 => h9) rfl (by decide +kernel) rfl rfl (Nat.le_of_ble_eq_true rfl) rfl dX7_look_81 (fun H locs hP hD hS => ?_)
            have hst := zC.pf hM hst (k := 37) (by decide) v442
            have kn443 := zpi_f hM (zpi (zpi (zpi S (ad 22) n8 v197) (ad 16) n8 1) (ad 23) n8 0) (i := 22) (by decide) 37 v442 kn432
            have kn444 := zpi_f hM (zpi (zpi (zpi S (ad 22) n8 v197) (ad 16) n8 1) (ad 23) n8 0) (i := 16) (by decide) 37 v442 kn433
            have kn445 := zpi_f hM (zpi (zpi (zpi S (ad 22) n8 v197) (ad 16) n8 1) (ad 23) n8 0) (i := 23) (by decide) 37 v442 kn434
            have hI := hI.ffree hM (k := 37) (by decide) v442
            have kn446 := zpi_s (zpi (zpi (zpi S (ad 22) n8 v197) (ad 16) n8 1) (ad 23) n8 0) mo 37 v442
            exact W.vret hx hb hr (fun t ht hW => ⟨⟨(zpi (zpi (zpi (zpi S (ad 22) n8 v197) (ad 16) n8 1) (ad 23) n8 0) mo 37 v442), rfl, ⟨hst, hI⟩, by rw [ht]; exact hP, va_K.moved hW.alike hK, hD⟩, hS.F ht⟩) hS.2.2 dX7_look_84
