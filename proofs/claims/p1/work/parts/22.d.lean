set_option maxHeartbeats 4000000 in
set_option maxRecDepth 100000 in
theorem c_X7_begin (l : Launch) (dC : Nat → ClassId) (dI : Nat → Nat → Nat) (cy : Nat → ClassId) (G : zG) (S : zS) (sz : Nat) (mo : Nat) (ad : Nat → Nat) (q8 : Nat) (hM : zM G S mo ad) (hI : zI mo ad S) (hq8 : q8 < 16) : Met l yX7_begin wsX7_begin ({ frames := 0, cells := 0, slots := 0, locals := 0 }) (zP dC dI cy [.ref mo, .int (nI q8)] G S sz) (va_Qv (fun S' => (zC mo ad [] [34, 35, 36] S S') ∧ zI mo ad S') (zB dC dI cy (zA cy G S sz) G) (zA cy G S sz)) 0 0 (zA cy G S sz) := by
  refine Met.ofW (cc := cX7_begin) (maxL := 2) (ret := none) (by decide) rfl ?_
  intro p e s m args below meth c s₁ B hml hv
  obtain ⟨rfl, hsz, hP, hK, hD0, hN⟩ := hv
  have hx := B.exec
  have hb := B.bytes
  have hr := B.returns
  have hts := atoms_spec (ws := wsX7_begin) B.pre
  have hown : s.vm.findClass RX7 = some m.cls := findClass_of_methodNamed B.named
  have hlocks := B.notSynchronized
  subst hsz
  have hD : va_D (zA cy G S s.heap.size) (zW cy G S) := hD0.self
  generalize hAe : zA cy G S s.heap.size = A at hD ⊢
  have hA : ∀ q : Nat, s.heap.size ≤ q → A q := fun q h => by rw [← hAe]; exact Or.inr h
  have hS : va_S A s.heap s.heap [] := va_S.rf
  have hst := zC.refl mo ad [] [34, 35, 36] S
  have hl := lv_entry ([.ref mo, .int (nI q8)]) (n := 2) (Nat.le_of_ble_eq_true rfl)
  rw [lg_entry_eq]
  generalize (lg_sl ([.ref mo, .int (nI q8)]) ++ List.replicate (2 - (lg_sl ([.ref mo, .int (nI q8)])).length) Slot.unset).toArray = ls at hl ⊢
  have hl : lv_has ls 2 [(0, .ref mo), (1, .int (nI q8))] := hl
  have hi7 : ∀ w ∈ wsX70, w ∈ wsX7_begin := by decide +kernel
  refine lv_aload_n hx hb dX7_begin_0 rfl (lv_at hl 0 rfl) ?_
  refine lv_iload_n hx hb dX7_begin_1 rfl (lv_at hl 1 rfl) ?_
  refine zputi (ci := 7) (v := (nI q8)) (ty := .int) (C := RX7) (T := TX7) (N := 42) hx hb hts hi7 tyX7 tyX7_ok nmX7 hown hK hP hD hS hM.1 rfl rfl 34 (by decide) (hts (.fieldLink RX7 104 "LinClusterModel" "slot" "I") (by decide +kernel)) (fun _ h9 => h9) rfl (by decide +kernel) rfl rfl (Nat.le_of_ble_eq_true rfl) rfl dX7_begin_2 (fun H locs hP hD hS => ?_)
  have hst := zC.pf hM hst (k := 34) (by decide) (nI q8)
  have hI := hI.slot hM (v := nI q8) (Or.inr ⟨q8, hq8, rfl⟩)
  have kn1 := zpi_s S mo 34 (nI q8)
  refine lv_aload_n hx hb dX7_begin_5 rfl (lv_at hl 0 rfl) ?_
  refine lv_aload_n hx hb dX7_begin_6 rfl (lv_at hl 0 rfl) ?_
  refine zget (ci := 7) (C := RX7) (T := TX7) (N := 42) hx hb hts hi7 hown hK hP hM.1 rfl rfl 33 (by decide) (hts (.fieldLink RX7 128 "LinClusterModel" "time" "I") (by decide +kernel)) (fun _ h9 => h9) rfl dX7_begin_7 ?_
  refine lv_topi (fun v2 ev2 => ?_)
  refine zputi (ci := 7) (v := v2) (ty := .int) (C := RX7) (T := TX7) (N := 42) hx hb hts hi7 tyX7 tyX7_ok nmX7 hown hK hP hD hS hM.1 rfl rfl 35 (by decide) (hts (.fieldLink RX7 147 "LinClusterModel" "slotBegan" "I") (by decide +kernel)) (fun _ h9 => h9) rfl (by decide +kernel) rfl rfl (Nat.le_of_ble_eq_true rfl) rfl dX7_begin_10 (fun H locs hP hD hS => ?_)
  have hst := zC.pf hM hst (k := 35) (by decide) v2
  have kn3 := zpi_ff (zpi S mo 34 (nI q8)) mo 35 v2 (i := 34) (by decide) kn1
  have hI := hI.ffree hM (k := 35) (by decide) v2
  have kn4 := zpi_s (zpi S mo 34 (nI q8)) mo 35 v2
  refine lv_aload_n hx hb dX7_begin_13 rfl (lv_at hl 0 rfl) ?_
  refine lv_dup hx hb dX7_begin_14 rfl ?_
  refine zget (ci := 7) (C := RX7) (T := TX7) (N := 42) hx hb hts hi7 hown hK hP hM.1 rfl rfl 36 (by decide) (hts (.fieldLink RX7 168 "LinClusterModel" "slotsBegan" "I") (by decide +kernel)) (fun _ h9 => h9) rfl dX7_begin_15 ?_
  refine lv_topi (fun v5 ev5 => ?_)
  refine lv_iconst (v := 1) hx hb dX7_begin_18 (by decide) ?_
  refine lv_iadd hx hb dX7_begin_19 ?_
  refine lv_topi (fun v6 ev6 => ?_)
  refine zputi (ci := 7) (v := v6) (ty := .int) (C := RX7) (T := TX7) (N := 42) hx hb hts hi7 tyX7 tyX7_ok nmX7 hown hK hP hD hS hM.1 rfl rfl 36 (by decide) (hts (.fieldLink RX7 168 "LinClusterModel" "slotsBegan" "I") (by decide +kernel)) (fun _ h9 => h9) rfl (by decide +kernel) rfl rfl (Nat.le_of_ble_eq_true rfl) rfl dX7_begin_20 (fun H locs hP hD hS => ?_)
  have hst := zC.pf hM hst (k := 36) (by decide) v6
  have kn7 := zpi_ff (zpi (zpi S mo 34 (nI q8)) mo 35 v2) mo 36 v6 (i := 34) (by decide) kn3
  have kn8 := zpi_ff (zpi (zpi S mo 34 (nI q8)) mo 35 v2) mo 36 v6 (i := 35) (by decide) kn4
  have hI := hI.ffree hM (k := 36) (by decide) v6
  have kn9 := zpi_s (zpi (zpi S mo 34 (nI q8)) mo 35 v2) mo 36 v6
  exact W.vret hx hb hr (fun t ht hW => ⟨⟨(zpi (zpi (zpi S mo 34 (nI q8)) mo 35 v2) mo 36 v6), rfl, ⟨hst, hI⟩, by rw [ht]; exact hP, va_K.moved hW.alike hK, hD⟩, hS.F ht⟩) hS.2.2 dX7_begin_23
set_option maxHeartbeats 4000000 in
set_option maxRecDepth 100000 in
theorem c_X7_schedule (l : Launch) (dC : Nat → ClassId) (dI : Nat → Nat → Nat) (cy : Nat → ClassId) (G : zG) (S : zS) (sz : Nat) (mo : Nat) (ad : Nat → Nat)  (hM : zM G S mo ad) (hI : zI mo ad S) : Met l yX7_schedule wsX7_schedule ({ frames := 1, cells := 0, slots := 0, locals := 21 }) (zP dC dI cy [.ref mo] G S sz) (va_Qv (fun S' => (zC mo ad [] [34, 35, 36] S S') ∧ zI mo ad S') (zB dC dI cy (zA cy G S sz) G) (zA cy G S sz)) 0 0 (zA cy G S sz) := by
  refine Met.ofW (cc := cX7_schedule) (maxL := 1) (ret := none) (by decide) rfl ?_
  intro p e s m args below meth c s₁ B hml hv
  obtain ⟨rfl, hsz, hP, hK, hD0, hN⟩ := hv
  have hx := B.exec
  have hb := B.bytes
  have hr := B.returns
  have hts := atoms_spec (ws := wsX7_schedule) B.pre
  have hown : s.vm.findClass RX7 = some m.cls := findClass_of_methodNamed B.named
  have hlocks := B.notSynchronized
  subst hsz
  have hD : va_D (zA cy G S s.heap.size) (zW cy G S) := hD0.self
  generalize hAe : zA cy G S s.heap.size = A at hD ⊢
  have hA : ∀ q : Nat, s.heap.size ≤ q → A q := fun q h => by rw [← hAe]; exact Or.inr h
  have hS : va_S A s.heap s.heap [] := va_S.rf
  have hst := zC.refl mo ad [] [34, 35, 36] S
  have hl := lv_entry ([.ref mo]) (n := 1) (Nat.le_of_ble_eq_true rfl)
  rw [lg_entry_eq]
  generalize (lg_sl ([.ref mo]) ++ List.replicate (1 - (lg_sl ([.ref mo])).length) Slot.unset).toArray = ls at hl ⊢
  have hl : lv_has ls 1 [(0, .ref mo)] := hl
  have hi7 : ∀ w ∈ wsX70, w ∈ wsX7_schedule := by decide +kernel
  refine lv_aload_n hx hb dX7_schedule_0 rfl (lv_at hl 0 rfl) ?_
  refine zget (ci := 7) (C := RX7) (T := TX7) (N := 42) hx hb hts hi7 hown hK hP hM.1 rfl rfl 16 (by decide) (hts (.fieldLink RX7 53 "LinClusterModel" "at" "[I") (by decide +kernel)) (fun _ h9 => h9) (v := .ref (ad 16)) (congrArg (fun z => some (va_rf z)) (((hM.eq hst.1).2.1 16 (by decide)).1)) dX7_schedule_1 ?_
  refine lv_iconst (v := 0) hx hb dX7_schedule_4 (by decide) ?_
  refine ziald hx hb hK hP (hM.2.1 16 (by decide)).2.1 (show G.2.2 (ad 16) = 8 from (hM.2.1 16 (by decide)).2.2) (by unfold vp_in; decide) dX7_schedule_5 ?_
  refine lv_topi (fun v1 ev1 => ?_)
  rw [(show (0 : Int32).toNatClampNeg = 0 from rfl)] at ev1
  refine lv_if_eq (tgt := 16) hx hb dX7_schedule_6 (by decide) (fun c2 => ?_) (fun c2 => ?_)
  · skip
    have kn3 := ev1.symm.trans c2
    exact W.vret hx hb hr (fun t ht hW => ⟨⟨S, rfl, ⟨hst, hI⟩, by rw [ht]; exact hP, va_K.moved hW.alike hK, hD⟩, hS.F ht⟩) hS.2.2 dX7_schedule_16
  · skip
    refine lv_aload_n hx hb dX7_schedule_9 rfl (lv_at hl 0 rfl) ?_
    refine zget (ci := 7) (C := RX7) (T := TX7) (N := 42) hx hb hts hi7 hown hK hP hM.1 rfl rfl 9 (by decide) (hts (.fieldLink RX7 134 "LinClusterModel" "slots" "I") (by decide +kernel)) (fun _ h9 => h9) rfl dX7_schedule_10 ?_
    refine lv_topi (fun v4 ev4 => ?_)
    refine lv_if_ne (tgt := 17) hx hb dX7_schedule_13 (by decide) (fun c5 => ?_) (fun c5 => ?_)
    · skip
      refine lv_aload_n hx hb dX7_schedule_17 rfl (lv_at hl 0 rfl) ?_
      refine zget (ci := 7) (C := RX7) (T := TX7) (N := 42) hx hb hts hi7 hown hK hP hM.1 rfl rfl 34 (by decide) (hts (.fieldLink RX7 104 "LinClusterModel" "slot" "I") (by decide +kernel)) (fun _ h9 => h9) rfl dX7_schedule_18 ?_
      refine lv_topi (fun v6 ev6 => ?_)
      refine lv_iconst (v := (-1)) hx hb dX7_schedule_21 (by decide) ?_
      refine lv_icmp_ne (tgt := 44) hx hb dX7_schedule_22 (by decide) (fun c7 => ?_) (fun c7 => ?_)
      · skip
        refine lv_aload_n hx hb dX7_schedule_44 rfl (lv_at hl 0 rfl) ?_
        refine zget (ci := 7) (C := RX7) (T := TX7) (N := 42) hx hb hts hi7 hown hK hP hM.1 rfl rfl 34 (by decide) (hts (.fieldLink RX7 104 "LinClusterModel" "slot" "I") (by decide +kernel)) (fun _ h9 => h9) rfl dX7_schedule_45 ?_
        refine lv_topi (fun v8 ev8 => ?_)
        refine lv_iconst (v := (-1)) hx hb dX7_schedule_48 (by decide) ?_
        refine lv_icmp_eq (tgt := 88) hx hb dX7_schedule_49 (by decide) (fun c9 => ?_) (fun c9 => ?_)
        · skip
          exact W.vret hx hb hr (fun t ht hW => ⟨⟨S, rfl, ⟨hst, hI⟩, by rw [ht]; exact hP, va_K.moved hW.alike hK, hD⟩, hS.F ht⟩) hS.2.2 dX7_schedule_88
        · skip
          obtain ⟨q8, hq8, eq8⟩ : ∃ q, q < 16 ∧ S.1 mo 34 = nI q := (hI.2.2.2.1).resolve_left (fun z9 => c9 (ev8.trans z9))
          refine lv_aload_n hx hb dX7_schedule_52 rfl (lv_at hl 0 rfl) ?_
          refine zget (ci := 7) (C := RX7) (T := TX7) (N := 42) hx hb hts hi7 hown hK hP hM.1 rfl rfl 33 (by decide) (hts (.fieldLink RX7 128 "LinClusterModel" "time" "I") (by decide +kernel)) (fun _ h9 => h9) rfl dX7_schedule_53 ?_
          refine lv_topi (fun v10 ev10 => ?_)
          refine lv_aload_n hx hb dX7_schedule_56 rfl (lv_at hl 0 rfl) ?_
          refine zget (ci := 7) (C := RX7) (T := TX7) (N := 42) hx hb hts hi7 hown hK hP hM.1 rfl rfl 35 (by decide) (hts (.fieldLink RX7 147 "LinClusterModel" "slotBegan" "I") (by decide +kernel)) (fun _ h9 => h9) rfl dX7_schedule_57 ?_
          refine lv_topi (fun v11 ev11 => ?_)
          refine lv_isub hx hb dX7_schedule_60 ?_
          refine lv_topi (fun v12 ev12 => ?_)
          refine lv_aload_n hx hb dX7_schedule_61 rfl (lv_at hl 0 rfl) ?_
          refine zget (ci := 7) (C := RX7) (T := TX7) (N := 42) hx hb hts hi7 hown hK hP hM.1 rfl rfl 11 (by decide) (hts (.fieldLink RX7 38 "LinClusterModel" "slotBits" "[I") (by decide +kernel)) (fun _ h9 => h9) (v := .ref (ad 11)) (congrArg (fun z => some (va_rf z)) (((hM.eq hst.1).2.1 11 (by decide)).1)) dX7_schedule_62 ?_
          refine lv_aload_n hx hb dX7_schedule_65 rfl (lv_at hl 0 rfl) ?_
          refine zget (ci := 7) (C := RX7) (T := TX7) (N := 42) hx hb hts hi7 hown hK hP hM.1 rfl rfl 34 (by decide) (hts (.fieldLink RX7 104 "LinClusterModel" "slot" "I") (by decide +kernel)) (fun _ h9 => h9) rfl dX7_schedule_66 ?_
          refine lv_topi (fun v13 ev13 => ?_)
          obtain rfl : v13 = (nI q8) := ev13.trans eq8
          refine ziald hx hb hK hP (hM.2.1 11 (by decide)).2.1 (show G.2.2 (ad 11) = 16 from (hM.2.1 11 (by decide)).2.2) (vp_in_nI (n := q8) (N := 16) (by omega) (by omega)) dX7_schedule_69 ?_
          refine lv_topi (fun v14 ev14 => ?_)
          rw [(nI_clamp (n := q8) (by omega))] at ev14
          refine lv_icmp_lt (tgt := 88) hx hb dX7_schedule_70 (by decide) (fun c15 => ?_) (fun c15 => ?_)
          · skip
            exact W.vret hx hb hr (fun t ht hW => ⟨⟨S, rfl, ⟨hst, hI⟩, by rw [ht]; exact hP, va_K.moved hW.alike hK, hD⟩, hS.F ht⟩) hS.2.2 dX7_schedule_88
          · skip
            obtain ⟨n9, hn9, en9⟩ := hI.2.1
            have hne9 : ¬ nI n9 = 0 := fun z9 => c5 (ev4.trans (en9.trans z9))
            have hp9 : 0 < n9 := Nat.pos_of_ne_zero (fun q9 => hne9 (by rw [q9]; exact nI_0))
            have hm9 : (q8 + 1) % n9 < 16 := Nat.lt_of_lt_of_le (Nat.mod_lt _ hp9) hn9
            refine lv_aload_n hx hb dX7_schedule_73 rfl (lv_at hl 0 rfl) ?_
            refine lv_aload_n hx hb dX7_schedule_74 rfl (lv_at hl 0 rfl) ?_
            refine zget (ci := 7) (C := RX7) (T := TX7) (N := 42) hx hb hts hi7 hown hK hP hM.1 rfl rfl 34 (by decide) (hts (.fieldLink RX7 104 "LinClusterModel" "slot" "I") (by decide +kernel)) (fun _ h9 => h9) rfl dX7_schedule_75 ?_
            refine lv_topi (fun v16 ev16 => ?_)
            obtain rfl : v16 = (nI q8) := ev16.trans eq8
            refine lv_iconst (v := 1) hx hb dX7_schedule_78 (by decide) ?_
            refine lv_iadd hx hb dX7_schedule_79 ?_
            refine lv_topi (fun v17 ev17 => ?_)
            obtain rfl : v17 = nI (q8 + 1) := ev17.trans (nI_add q8 1)
            refine lv_aload_n hx hb dX7_schedule_80 rfl (lv_at hl 0 rfl) ?_
            refine zget (ci := 7) (C := RX7) (T := TX7) (N := 42) hx hb hts hi7 hown hK hP hM.1 rfl rfl 9 (by decide) (hts (.fieldLink RX7 134 "LinClusterModel" "slots" "I") (by decide +kernel)) (fun _ h9 => h9) rfl dX7_schedule_81 ?_
            refine lv_topi (fun v18 ev18 => ?_)
            obtain rfl : v18 = nI n9 := ev18.trans en9
            refine lv_irem hx hb dX7_schedule_84 hne9 ?_
            refine lv_topi (fun v19 ev19 => ?_)
            obtain rfl : v19 = nI ((q8 + 1) % n9) := ev19.trans (pk_rem (a := q8 + 1) (d := n9) (by omega) hp9 (by omega))
            refine zcallv (va_runV (As := [.int (nI ((q8 + 1) % n9))]) (rest := []) ⟨hx, hb, hml, hown, hts⟩ (c_X7_begin l dC dI cy G S s.heap.size mo ad ((q8 + 1) % n9) (hM.eq hst.1) hI hm9) (cwV 1 hts gX7_schedule_X7_begin rfl rfl rfl (by decide +kernel) ⟨Nat.le_of_ble_eq_true rfl, Nat.le_of_ble_eq_true rfl⟩) (zpreV hK hP hD hN (zrecv7 hK hP hM.1)) rfl rfl hl.1 rfl (lv_room (Nat.le_of_ble_eq_true rfl)) dX7_schedule_85 ⟨Nat.le_of_ble_eq_true rfl, Nat.le_of_ble_eq_true rfl⟩) hS hD hA (fun S21 H locs hr20 hP hD hS => ?_)
            have hst := hst.trans (hr20.1.mono (by decide) (by decide))
            have hI := hr20.2
            exact W.vret hx hb hr (fun t ht hW => ⟨⟨S21, rfl, ⟨hst, hI⟩, by rw [ht]; exact hP, va_K.moved hW.alike hK, hD⟩, hS.F ht⟩) hS.2.2 dX7_schedule_88
      · skip
        refine lv_aload_n hx hb dX7_schedule_25 rfl (lv_at hl 0 rfl) ?_
        refine zget (ci := 7) (C := RX7) (T := TX7) (N := 42) hx hb hts hi7 hown hK hP hM.1 rfl rfl 33 (by decide) (hts (.fieldLink RX7 128 "LinClusterModel" "time" "I") (by decide +kernel)) (fun _ h9 => h9) rfl dX7_schedule_26 ?_
        refine lv_topi (fun v22 ev22 => ?_)
        refine lv_aload_n hx hb dX7_schedule_29 rfl (lv_at hl 0 rfl) ?_
        refine zget (ci := 7) (C := RX7) (T := TX7) (N := 42) hx hb hts hi7 hown hK hP hM.1 rfl rfl 37 (by decide) (hts (.fieldLink RX7 161 "LinClusterModel" "startsAt" "I") (by decide +kernel)) (fun _ h9 => h9) rfl dX7_schedule_30 ?_
        refine lv_topi (fun v23 ev23 => ?_)
        refine lv_icmp_lt (tgt := 44) hx hb dX7_schedule_33 (by decide) (fun c24 => ?_) (fun c24 => ?_)
        · skip
          refine lv_aload_n hx hb dX7_schedule_44 rfl (lv_at hl 0 rfl) ?_
          refine zget (ci := 7) (C := RX7) (T := TX7) (N := 42) hx hb hts hi7 hown hK hP hM.1 rfl rfl 34 (by decide) (hts (.fieldLink RX7 104 "LinClusterModel" "slot" "I") (by decide +kernel)) (fun _ h9 => h9) rfl dX7_schedule_45 ?_
          refine lv_topi (fun v25 ev25 => ?_)
          refine lv_iconst (v := (-1)) hx hb dX7_schedule_48 (by decide) ?_
          refine lv_icmp_eq (tgt := 88) hx hb dX7_schedule_49 (by decide) (fun c26 => ?_) (fun c26 => ?_)
          · skip
            exact W.vret hx hb hr (fun t ht hW => ⟨⟨S, rfl, ⟨hst, hI⟩, by rw [ht]; exact hP, va_K.moved hW.alike hK, hD⟩, hS.F ht⟩) hS.2.2 dX7_schedule_88
          · skip
            obtain ⟨q8, hq8, eq8⟩ : ∃ q, q < 16 ∧ S.1 mo 34 = nI q := (hI.2.2.2.1).resolve_left (fun z9 => c26 (ev25.trans z9))
            refine lv_aload_n hx hb dX7_schedule_52 rfl (lv_at hl 0 rfl) ?_
            refine zget (ci := 7) (C := RX7) (T := TX7) (N := 42) hx hb hts hi7 hown hK hP hM.1 rfl rfl 33 (by decide) (hts (.fieldLink RX7 128 "LinClusterModel" "time" "I") (by decide +kernel)) (fun _ h9 => h9) rfl dX7_schedule_53 ?_
            refine lv_topi (fun v27 ev27 => ?_)
            refine lv_aload_n hx hb dX7_schedule_56 rfl (lv_at hl 0 rfl) ?_
            refine zget (ci := 7) (C := RX7) (T := TX7) (N := 42) hx hb hts hi7 hown hK hP hM.1 rfl rfl 35 (by decide) (hts (.fieldLink RX7 147 "LinClusterModel" "slotBegan" "I") (by decide +kernel)) (fun _ h9 => h9) rfl dX7_schedule_57 ?_
            refine lv_topi (fun v28 ev28 => ?_)
            refine lv_isub hx hb dX7_schedule_60 ?_
            refine lv_topi (fun v29 ev29 => ?_)
            refine lv_aload_n hx hb dX7_schedule_61 rfl (lv_at hl 0 rfl) ?_
            refine zget (ci := 7) (C := RX7) (T := TX7) (N := 42) hx hb hts hi7 hown hK hP hM.1 rfl rfl 11 (by decide) (hts (.fieldLink RX7 38 "LinClusterModel" "slotBits" "[I") (by decide +kernel)) (fun _ h9 => h9) (v := .ref (ad 11)) (congrArg (fun z => some (va_rf z)) (((hM.eq hst.1).2.1 11 (by decide)).1)) dX7_schedule_62 ?_
            refine lv_aload_n hx hb dX7_schedule_65 rfl (lv_at hl 0 rfl) ?_
            refine zget (ci := 7) (C := RX7) (T := TX7) (N := 42) hx hb hts hi7 hown hK hP hM.1 rfl rfl 34 (by decide) (hts (.fieldLink RX7 104 "LinClusterModel" "slot" "I") (by decide +kernel)) (fun _ h9 => h9) rfl dX7_schedule_66 ?_
            refine lv_topi (fun v30 ev30 => ?_)
            obtain rfl : v30 = (nI q8) := ev30.trans eq8
            refine ziald hx hb hK hP (hM.2.1 11 (by decide)).2.1 (show G.2.2 (ad 11) = 16 from (hM.2.1 11 (by decide)).2.2) (vp_in_nI (n := q8) (N := 16) (by omega) (by omega)) dX7_schedule_69 ?_
            refine lv_topi (fun v31 ev31 => ?_)
            rw [(nI_clamp (n := q8) (by omega))] at ev31
            refine lv_icmp_lt (tgt := 88) hx hb dX7_schedule_70 (by decide) (fun c32 => ?_) (fun c32 => ?_)
            · skip
              exact W.vret hx hb hr (fun t ht hW => ⟨⟨S, rfl, ⟨hst, hI⟩, by rw [ht]; exact hP, va_K.moved hW.alike hK, hD⟩, hS.F ht⟩) hS.2.2 dX7_schedule_88
            · skip
              obtain ⟨n9, hn9, en9⟩ := hI.2.1
              have hne9 : ¬ nI n9 = 0 := fun z9 => c5 (ev4.trans (en9.trans z9))
              have hp9 : 0 < n9 := Nat.pos_of_ne_zero (fun q9 => hne9 (by rw [q9]; exact nI_0))
              have hm9 : (q8 + 1) % n9 < 16 := Nat.lt_of_lt_of_le (Nat.mod_lt _ hp9) hn9
              refine lv_aload_n hx hb dX7_schedule_73 rfl (lv_at hl 0 rfl) ?_
              refine lv_aload_n hx hb dX7_schedule_74 rfl (lv_at hl 0 rfl) ?_
              refine zget (ci := 7) (C := RX7) (T := TX7) (N := 42) hx hb hts hi7 hown hK hP hM.1 rfl rfl 34 (by decide) (hts (.fieldLink RX7 104 "LinClusterModel" "slot" "I") (by decide +kernel)) (fun _ h9 => h9) rfl dX7_schedule_75 ?_
              refine lv_topi (fun v33 ev33 => ?_)
              obtain rfl : v33 = (nI q8) := ev33.trans eq8
              refine lv_iconst (v := 1) hx hb dX7_schedule_78 (by decide) ?_
              refine lv_iadd hx hb dX7_schedule_79 ?_
              refine lv_topi (fun v34 ev34 => ?_)
              obtain rfl : v34 = nI (q8 + 1) := ev34.trans (nI_add q8 1)
              refine lv_aload_n hx hb dX7_schedule_80 rfl (lv_at hl 0 rfl) ?_
              refine zget (ci := 7) (C := RX7) (T := TX7) (N := 42) hx hb hts hi7 hown hK hP hM.1 rfl rfl 9 (by decide) (hts (.fieldLink RX7 134 "LinClusterModel" "slots" "I") (by decide +kernel)) (fun _ h9 => h9) rfl dX7_schedule_81 ?_
              refine lv_topi (fun v35 ev35 => ?_)
              obtain rfl : v35 = nI n9 := ev35.trans en9
              refine lv_irem hx hb dX7_schedule_84 hne9 ?_
              refine lv_topi (fun v36 ev36 => ?_)
              obtain rfl : v36 = nI ((q8 + 1) % n9) := ev36.trans (pk_rem (a := q8 + 1) (d := n9) (by omega) hp9 (by omega))
              refine zcallv (va_runV (As := [.int (nI ((q8 + 1) % n9))]) (rest := []) ⟨hx, hb, hml, hown, hts⟩ (c_X7_begin l dC dI cy G S s.heap.size mo ad ((q8 + 1) % n9) (hM.eq hst.1) hI hm9) (cwV 1 hts gX7_schedule_X7_begin rfl rfl rfl (by decide +kernel) ⟨Nat.le_of_ble_eq_true rfl, Nat.le_of_ble_eq_true rfl⟩) (zpreV hK hP hD hN (zrecv7 hK hP hM.1)) rfl rfl hl.1 rfl (lv_room (Nat.le_of_ble_eq_true rfl)) dX7_schedule_85 ⟨Nat.le_of_ble_eq_true rfl, Nat.le_of_ble_eq_true rfl⟩) hS hD hA (fun S38 H locs hr37 hP hD hS => ?_)
              have hst := hst.trans (hr37.1.mono (by decide) (by decide))
              have hI := hr37.2
              exact W.vret hx hb hr (fun t ht hW => ⟨⟨S38, rfl, ⟨hst, hI⟩, by rw [ht]; exact hP, va_K.moved hW.alike hK, hD⟩, hS.F ht⟩) hS.2.2 dX7_schedule_88
        · skip
          refine lv_aload_n hx hb dX7_schedule_36 rfl (lv_at hl 0 rfl) ?_
          refine lv_iconst (v := 0) hx hb dX7_schedule_37 (by decide) ?_
          refine zcallv (va_runV (As := [.int 0]) (rest := []) ⟨hx, hb, hml, hown, hts⟩ (c_X7_begin l dC dI cy G S s.heap.size mo ad 0 (hM.eq hst.1) hI (by omega)) (cwV 1 hts gX7_schedule_X7_begin rfl rfl rfl (by decide +kernel) ⟨Nat.le_of_ble_eq_true rfl, Nat.le_of_ble_eq_true rfl⟩) (zpreV hK hP hD hN (zrecv7 hK hP hM.1)) rfl rfl hl.1 rfl (lv_room (Nat.le_of_ble_eq_true rfl)) dX7_schedule_38 ⟨Nat.le_of_ble_eq_true rfl, Nat.le_of_ble_eq_true rfl⟩) hS hD hA (fun S40 H locs hr39 hP hD hS => ?_)
          have hst := hst.trans (hr39.1.mono (by decide) (by decide))
          have hI := hr39.2
          refine lv_goto (tgt := 88) hx hb dX7_schedule_41 (by decide) ?_
          exact W.vret hx hb hr (fun t ht hW => ⟨⟨S40, rfl, ⟨hst, hI⟩, by rw [ht]; exact hP, va_K.moved hW.alike hK, hD⟩, hS.F ht⟩) hS.2.2 dX7_schedule_88
    · skip
      exact W.vret hx hb hr (fun t ht hW => ⟨⟨S, rfl, ⟨hst, hI⟩, by rw [ht]; exact hP, va_K.moved hW.alike hK, hD⟩, hS.F ht⟩) hS.2.2 dX7_schedule_16
