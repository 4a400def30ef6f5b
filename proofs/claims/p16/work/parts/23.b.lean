theorem zmoe (S : zS) (ad : Nat → Nat) (id : Int32) : ∃ q, zmo S ad id q := by
  by_cases h : id < 0 ∨ 62 ≤ id
  · exact ⟨none, Or.inr ⟨h, rfl⟩⟩
  · obtain ⟨j, hj, e⟩ := zin62 (fun c => h (Or.inl c)) (fun c => h (Or.inr c))
    by_cases c : S.1 (ad 1) j = 0
    · exact ⟨none, Or.inl ⟨j, hj, e, Or.inl ⟨c, rfl⟩⟩⟩
    · exact ⟨_, Or.inl ⟨j, hj, e, Or.inr ⟨c, rfl⟩⟩⟩
theorem kSt_no {v b k : Int32} {q : Option (Int32 × Int32)} (h : v < 0 ∨ 8 ≤ v) : kStatus v q b k = 1 := by
  cases q
  · rfl
  · exact if_pos (Or.inl h)
theorem kLi_no {v : Int32} {q : Option (Int32 × Int32)} (h : v < 0 ∨ 8 ≤ v) : kListen v q = 1 := by
  cases q
  · rfl
  · exact if_pos (Or.inl h)
theorem zbyt {L : Nat} {b m : Int32} (hL : L ≤ 8) (h : ¬ b < 0 ∧ ¬ m < b) (hm : m = nI L - 1 := by assumption) : ∃ j : Nat, j < 8 ∧ b = nI j := by
  subst hm
  have h2 : ¬ nI L ≤ b := fun z => h.2 ((zlm hL b).mpr z)
  obtain ⟨j, hj, e⟩ := nI_of h.1
  refine ⟨j, ?_, e⟩
  rw [e] at h2
  have : ¬ L ≤ j := fun c => h2 (nI_le c hj)
  omega
set_option maxHeartbeats 4000000 in
set_option maxRecDepth 100000 in
theorem c_X7_status (l : Launch) (dC : Nat → ClassId) (dI : Nat → Nat → Nat) (cy : Nat → ClassId) (G : zG) (S : zS) (sz : Nat) (mo : Nat) (ad : Nat → Nat) (v id b k : Int32) (hM : zM G S mo ad) (hI : zI mo ad S) : Met l yX7_status wsX7_status ({ frames := 2, cells := 0, slots := 0, locals := 43 }) (zP dC dI cy [.ref mo, .int v, .int id, .int b, .int k] G S sz) (va_Qv (fun S' => (zC mo ad [13, 14, 15] [0] S S' ∧ zI mo ad S') ∧ ∃ q, zmo S ad id q ∧ S'.1 mo 0 = kStatus v q b k) (zB dC dI cy (zA cy G S sz) G) (zA cy G S sz)) 0 0 (zA cy G S sz) := by
  refine Met.ofW (cc := cX7_status) (maxL := 5) (ret := none) (by decide) rfl ?_
  intro p e s m args below meth c s₁ B hml hv
  obtain ⟨rfl, hsz, hP, hK, hD0, hN⟩ := hv
  have hx := B.exec
  have hb := B.bytes
  have hr := B.returns
  have hts := atoms_spec (ws := wsX7_status) B.pre
  have hown : s.vm.findClass RX7 = some m.cls := findClass_of_methodNamed B.named
  have hlocks := B.notSynchronized
  subst hsz
  have hD : va_D (zA cy G S s.heap.size) (zW cy G S) := hD0.self
  generalize hAe : zA cy G S s.heap.size = A at hD ⊢
  have hA : ∀ q : Nat, s.heap.size ≤ q → A q := fun q h => by rw [← hAe]; exact Or.inr h
  have hS : va_S A s.heap s.heap [] := va_S.rf
  have hst := zC.refl mo ad [13, 14, 15] [0] S
  have hl := lv_entry ([.ref mo, .int v, .int id, .int b, .int k]) (n := 5) (Nat.le_of_ble_eq_true rfl)
  rw [lg_entry_eq]
  generalize (lg_sl ([.ref mo, .int v, .int id, .int b, .int k]) ++ List.replicate (5 - (lg_sl ([.ref mo, .int v, .int id, .int b, .int k])).length) Slot.unset).toArray = ls at hl ⊢
  have hl : lv_has ls 5 [(0, .ref mo), (1, .int v), (2, .int id), (3, .int b), (4, .int k)] := hl
  have hi7 : ∀ w ∈ wsX70, w ∈ wsX7_status := by decide +kernel
  refine lv_aload_n hx hb dX7_status_0 rfl (lv_at hl 0 rfl) ?_
  refine lv_iload_n hx hb dX7_status_1 rfl (lv_at hl 1 rfl) ?_
  refine vp_callSi (va_Run.run (va_runS (As := [.int v]) (rest := [.ref mo]) ⟨hx, hb, hml, hown, hts⟩ (c_X7_isNode l v) (va_cwS 1 hts gX7_status_X7_isNode rfl rfl rfl (by decide +kernel) ⟨Nat.le_of_ble_eq_true rfl, Nat.le_of_ble_eq_true rfl⟩) zpreS0 rfl rfl hl.1 rfl (lv_room (Nat.le_of_ble_eq_true rfl)) dX7_status_2 ⟨Nat.le_of_ble_eq_true rfl, Nat.le_of_ble_eq_true rfl⟩)) (fun r1 hr1 => ?_)
  refine lv_if_eq (tgt := 53) hx hb dX7_status_5 (by decide) (fun c2 => ?_) (fun c2 => ?_)
  · skip
    refine lv_iconst (v := 1) hx hb dX7_status_53 (by decide) ?_
    refine lv_goto (tgt := 58) hx hb dX7_status_54 (by decide) ?_
    refine zputi (ci := 7) (v := 1) (ty := .int) (C := RX7) (T := TX7) (N := 42) hx hb hts hi7 tyX7 tyX7_ok nmX7 hown hK hP hD hS hM.1 rfl rfl 0 (by decide) (hts (.fieldLink RX7 117 "LinClusterModel" "thrown" "I") (by decide +kernel)) (fun _ h9 => h9) rfl (by decide +kernel) rfl rfl (Nat.le_of_ble_eq_true rfl) rfl dX7_status_58 (fun H locs hP hD hS => ?_)
    have hst := zC.pf hM hst (k := 0) (by decide) 1
    have hI := hI.ffree hM (k := 0) (by decide) 1
    have kn3 := zpi_s S mo 0 1
    refine lv_aload_n hx hb dX7_status_61 rfl (lv_at hl 0 rfl) ?_
    refine zget (ci := 7) (C := RX7) (T := TX7) (N := 42) hx hb hts hi7 hown hK hP hM.1 rfl rfl 0 (by decide) (hts (.fieldLink RX7 117 "LinClusterModel" "thrown" "I") (by decide +kernel)) (fun _ h9 => h9) rfl dX7_status_62 ?_
    refine lv_topi (fun v4 ev4 => ?_)
    obtain rfl : v4 = 1 := ev4.trans kn3
    refine lv_if_ne (tgt := 90) hx hb dX7_status_65 (by decide) (fun c5 => ?_) (fun c5 => ?_)
    · skip
      exact W.vret hx hb hr (fun t ht hW => ⟨⟨(zpi S mo 0 1), rfl, ⟨⟨hst, hI⟩, (by obtain ⟨q9, hq9⟩ := zmoe S ad id; exact ⟨q9, hq9, by rw [kn3]; exact (kSt_no (zin7b hr1 c2)).symm⟩)⟩, by rw [ht]; exact hP, va_K.moved hW.alike hK, hD⟩, hS.F ht⟩) hS.2.2 dX7_status_90
    · exact absurd c5 (by decide)
  · skip
    obtain ⟨j8, hj8, rfl⟩ := zin7n hr1 c2
    refine lv_aload_n hx hb dX7_status_8 rfl (lv_at hl 0 rfl) ?_
    refine lv_iload_n hx hb dX7_status_9 rfl (lv_at hl 2 rfl) ?_
    refine vp_callSi (va_Run.run (va_runV (As := [.int id]) (rest := [.ref mo]) ⟨hx, hb, hml, hown, hts⟩ (c_X7_isFrame l dC dI cy G S s.heap.size mo ad id (hM.eq hst.1)) (cwV 1 hts gX7_status_X7_isFrame rfl rfl rfl (by decide +kernel) ⟨Nat.le_of_ble_eq_true rfl, Nat.le_of_ble_eq_true rfl⟩) (zpreV hK hP hD hN (zrecv7 hK hP hM.1)) rfl rfl hl.1 rfl (lv_room (Nat.le_of_ble_eq_true rfl)) dX7_status_10 ⟨Nat.le_of_ble_eq_true rfl, Nat.le_of_ble_eq_true rfl⟩)) (fun r6 hr6 => ?_)
    refine lv_if_eq (tgt := 53) hx hb dX7_status_13 (by decide) (fun c7 => ?_) (fun c7 => ?_)
    · skip
      refine lv_iconst (v := 1) hx hb dX7_status_53 (by decide) ?_
      refine lv_goto (tgt := 58) hx hb dX7_status_54 (by decide) ?_
      refine zputi (ci := 7) (v := 1) (ty := .int) (C := RX7) (T := TX7) (N := 42) hx hb hts hi7 tyX7 tyX7_ok nmX7 hown hK hP hD hS hM.1 rfl rfl 0 (by decide) (hts (.fieldLink RX7 117 "LinClusterModel" "thrown" "I") (by decide +kernel)) (fun _ h9 => h9) rfl (by decide +kernel) rfl rfl (Nat.le_of_ble_eq_true rfl) rfl dX7_status_58 (fun H locs hP hD hS => ?_)
      have hst := zC.pf hM hst (k := 0) (by decide) 1
      have hI := hI.ffree hM (k := 0) (by decide) 1
      have kn8 := zpi_s S mo 0 1
      refine lv_aload_n hx hb dX7_status_61 rfl (lv_at hl 0 rfl) ?_
      refine zget (ci := 7) (C := RX7) (T := TX7) (N := 42) hx hb hts hi7 hown hK hP hM.1 rfl rfl 0 (by decide) (hts (.fieldLink RX7 117 "LinClusterModel" "thrown" "I") (by decide +kernel)) (fun _ h9 => h9) rfl dX7_status_62 ?_
      refine lv_topi (fun v9 ev9 => ?_)
      obtain rfl : v9 = 1 := ev9.trans kn8
      refine lv_if_ne (tgt := 90) hx hb dX7_status_65 (by decide) (fun c10 => ?_) (fun c10 => ?_)
      · skip
        exact W.vret hx hb hr (fun t ht hW => ⟨⟨(zpi S mo 0 1), rfl, ⟨⟨hst, hI⟩, ⟨none, (zmo0 (zfr0 hr6 c7)), (by show _ = (1 : Int32); rw [kn8])⟩⟩, by rw [ht]; exact hP, va_K.moved hW.alike hK, hD⟩, hS.F ht⟩) hS.2.2 dX7_status_90
      · exact absurd c10 (by decide)
    · skip
      obtain ⟨i8, hi8, rfl, hth8⟩ := zfr1 hr6 c7
      refine lv_aload_n hx hb dX7_status_16 rfl (lv_at hl 0 rfl) ?_
      refine zget (ci := 7) (C := RX7) (T := TX7) (N := 42) hx hb hts hi7 hown hK hP hM.1 rfl rfl 3 (by decide) (hts (.fieldLink RX7 17 "LinClusterModel" "publishers" "[I") (by decide +kernel)) (fun _ h9 => h9) (v := .ref (ad 3)) (congrArg (fun z => some (va_rf z)) (((hM.eq hst.1).2.1 3 (by decide)).1)) dX7_status_17 ?_
      refine lv_iload_n hx hb dX7_status_20 rfl (lv_at hl 2 rfl) ?_
      refine ziald hx hb hK hP (hM.2.1 3 (by decide)).2.1 (show G.2.2 (ad 3) = 62 from (hM.2.1 3 (by decide)).2.2) (vp_in_nI (n := i8) (N := 62) (by omega) (by omega)) dX7_status_21 ?_
      refine lv_topi (fun v11 ev11 => ?_)
      rw [(nI_clamp (n := i8) (by omega))] at ev11
      refine lv_iload_n hx hb dX7_status_22 rfl (lv_at hl 1 rfl) ?_
      refine lv_icmp_ne (tgt := 53) hx hb dX7_status_23 (by decide) (fun c12 => ?_) (fun c12 => ?_)
      · skip
        refine lv_iconst (v := 1) hx hb dX7_status_53 (by decide) ?_
        refine lv_goto (tgt := 58) hx hb dX7_status_54 (by decide) ?_
        refine zputi (ci := 7) (v := 1) (ty := .int) (C := RX7) (T := TX7) (N := 42) hx hb hts hi7 tyX7 tyX7_ok nmX7 hown hK hP hD hS hM.1 rfl rfl 0 (by decide) (hts (.fieldLink RX7 117 "LinClusterModel" "thrown" "I") (by decide +kernel)) (fun _ h9 => h9) rfl (by decide +kernel) rfl rfl (Nat.le_of_ble_eq_true rfl) rfl dX7_status_58 (fun H locs hP hD hS => ?_)
        have hst := zC.pf hM hst (k := 0) (by decide) 1
        have hI := hI.ffree hM (k := 0) (by decide) 1
        have kn13 := zpi_s S mo 0 1
        refine lv_aload_n hx hb dX7_status_61 rfl (lv_at hl 0 rfl) ?_
        refine zget (ci := 7) (C := RX7) (T := TX7) (N := 42) hx hb hts hi7 hown hK hP hM.1 rfl rfl 0 (by decide) (hts (.fieldLink RX7 117 "LinClusterModel" "thrown" "I") (by decide +kernel)) (fun _ h9 => h9) rfl dX7_status_62 ?_
        refine lv_topi (fun v14 ev14 => ?_)
        obtain rfl : v14 = 1 := ev14.trans kn13
        refine lv_if_ne (tgt := 90) hx hb dX7_status_65 (by decide) (fun c15 => ?_) (fun c15 => ?_)
        · skip
          exact W.vret hx hb hr (fun t ht hW => ⟨⟨(zpi S mo 0 1), rfl, ⟨⟨hst, hI⟩, ⟨_, zmo1 hi8 hth8, by rw [kn13]; exact (if_pos (Or.inr (Or.inl (fun z9 => c12 ((ev11.trans z9)))))).symm⟩⟩, by rw [ht]; exact hP, va_K.moved hW.alike hK, hD⟩, hS.F ht⟩) hS.2.2 dX7_status_90
        · exact absurd c15 (by decide)
      · skip
        refine lv_iload_n hx hb dX7_status_26 rfl (lv_at hl 3 rfl) ?_
        refine lv_iconst (v := 0) hx hb dX7_status_27 (by decide) ?_
        refine lv_aload_n hx hb dX7_status_28 rfl (lv_at hl 0 rfl) ?_
        refine zget (ci := 7) (C := RX7) (T := TX7) (N := 42) hx hb hts hi7 hown hK hP hM.1 rfl rfl 2 (by decide) (hts (.fieldLink RX7 13 "LinClusterModel" "lengths" "[I") (by decide +kernel)) (fun _ h9 => h9) (v := .ref (ad 2)) (congrArg (fun z => some (va_rf z)) (((hM.eq hst.1).2.1 2 (by decide)).1)) dX7_status_29 ?_
        refine lv_iload_n hx hb dX7_status_32 rfl (lv_at hl 2 rfl) ?_
        refine ziald hx hb hK hP (hM.2.1 2 (by decide)).2.1 (show G.2.2 (ad 2) = 62 from (hM.2.1 2 (by decide)).2.2) (vp_in_nI (n := i8) (N := 62) (by omega) (by omega)) dX7_status_33 ?_
        refine lv_topi (fun v16 ev16 => ?_)
        rw [(nI_clamp (n := i8) (by omega))] at ev16
        obtain ⟨L8, hL8, eL8⟩ := hI.len hi8
        obtain rfl : v16 = nI L8 := ev16.trans eL8
        refine lv_iconst (v := 1) hx hb dX7_status_34 (by decide) ?_
        refine lv_isub hx hb dX7_status_35 ?_
        refine lv_topi (fun v17 ev17 => ?_)
        refine vp_callSi (va_Run.run (va_runS (As := [.int b, .int 0, .int v17]) (rest := [.ref mo]) ⟨hx, hb, hml, hown, hts⟩ (c_X7_isIn l b 0 v17) (va_cwS 3 hts gX7_status_X7_isIn rfl rfl rfl (by decide +kernel) ⟨Nat.le_of_ble_eq_true rfl, Nat.le_of_ble_eq_true rfl⟩) zpreS0 rfl rfl hl.1 rfl (lv_room (Nat.le_of_ble_eq_true rfl)) dX7_status_36 ⟨Nat.le_of_ble_eq_true rfl, Nat.le_of_ble_eq_true rfl⟩)) (fun r18 hr18 => ?_)
        refine lv_if_eq (tgt := 53) hx hb dX7_status_39 (by decide) (fun c19 => ?_) (fun c19 => ?_)
        · skip
          refine lv_iconst (v := 1) hx hb dX7_status_53 (by decide) ?_
          refine lv_goto (tgt := 58) hx hb dX7_status_54 (by decide) ?_
          refine zputi (ci := 7) (v := 1) (ty := .int) (C := RX7) (T := TX7) (N := 42) hx hb hts hi7 tyX7 tyX7_ok nmX7 hown hK hP hD hS hM.1 rfl rfl 0 (by decide) (hts (.fieldLink RX7 117 "LinClusterModel" "thrown" "I") (by decide +kernel)) (fun _ h9 => h9) rfl (by decide +kernel) rfl rfl (Nat.le_of_ble_eq_true rfl) rfl dX7_status_58 (fun H locs hP hD hS => ?_)
          have hst := zC.pf hM hst (k := 0) (by decide) 1
          have hI := hI.ffree hM (k := 0) (by decide) 1
          have kn20 := zpi_s S mo 0 1
          refine lv_aload_n hx hb dX7_status_61 rfl (lv_at hl 0 rfl) ?_
          refine zget (ci := 7) (C := RX7) (T := TX7) (N := 42) hx hb hts hi7 hown hK hP hM.1 rfl rfl 0 (by decide) (hts (.fieldLink RX7 117 "LinClusterModel" "thrown" "I") (by decide +kernel)) (fun _ h9 => h9) rfl dX7_status_62 ?_
          refine lv_topi (fun v21 ev21 => ?_)
          obtain rfl : v21 = 1 := ev21.trans kn20
          refine lv_if_ne (tgt := 90) hx hb dX7_status_65 (by decide) (fun c22 => ?_) (fun c22 => ?_)
          · skip
            exact W.vret hx hb hr (fun t ht hW => ⟨⟨(zpi S mo 0 1), rfl, ⟨⟨hst, hI⟩, ⟨_, zmo1 hi8 hth8, by rw [kn20]; exact (if_pos (Or.inr (Or.inr (Or.inl ((zii0 hr18 c19).imp (fun q => q) (fun z9 => by rw [eL8]; exact (zlm hL8 _).mp (by rw [← ev17]; exact z9))))))).symm⟩⟩, by rw [ht]; exact hP, va_K.moved hW.alike hK, hD⟩, hS.F ht⟩) hS.2.2 dX7_status_90
          · exact absurd c22 (by decide)
        · skip
          obtain ⟨b8, hb8, rfl⟩ := zbyt hL8 (zii1 hr18 c19)
          refine lv_iload hx hb dX7_status_42 (lv_at hl 4 rfl) ?_
          refine lv_iconst (v := 0) hx hb dX7_status_44 (by decide) ?_
          refine lv_bipush (v := 7) hx hb dX7_status_45 (by decide) ?_
          refine vp_callSi (va_Run.run (va_runS (As := [.int k, .int 0, .int 7]) (rest := [.ref mo]) ⟨hx, hb, hml, hown, hts⟩ (c_X7_isIn l k 0 7) (va_cwS 3 hts gX7_status_X7_isIn rfl rfl rfl (by decide +kernel) ⟨Nat.le_of_ble_eq_true rfl, Nat.le_of_ble_eq_true rfl⟩) zpreS0 rfl rfl hl.1 rfl (lv_room (Nat.le_of_ble_eq_true rfl)) dX7_status_47 ⟨Nat.le_of_ble_eq_true rfl, Nat.le_of_ble_eq_true rfl⟩)) (fun r23 hr23 => ?_)
          refine lv_if_ne (tgt := 57) hx hb dX7_status_50 (by decide) (fun c24 => ?_) (fun c24 => ?_)
          · skip
            refine lv_iconst (v := 0) hx hb dX7_status_57 (by decide) ?_
            refine zputi (ci := 7) (v := 0) (ty := .int) (C := RX7) (T := TX7) (N := 42) hx hb hts hi7 tyX7 tyX7_ok nmX7 hown hK hP hD hS hM.1 rfl rfl 0 (by decide) (hts (.fieldLink RX7 117 "LinClusterModel" "thrown" "I") (by decide +kernel)) (fun _ h9 => h9) rfl (by decide +kernel) rfl rfl (Nat.le_of_ble_eq_true rfl) rfl dX7_status_58 (fun H locs hP hD hS => ?_)
            have hst := zC.pf hM hst (k := 0) (by decide) 0
            have hI := hI.ffree hM (k := 0) (by decide) 0
            have kn25 := zpi_s S mo 0 0
            refine lv_aload_n hx hb dX7_status_61 rfl (lv_at hl 0 rfl) ?_
            refine zget (ci := 7) (C := RX7) (T := TX7) (N := 42) hx hb hts hi7 hown hK hP hM.1 rfl rfl 0 (by decide) (hts (.fieldLink RX7 117 "LinClusterModel" "thrown" "I") (by decide +kernel)) (fun _ h9 => h9) rfl dX7_status_62 ?_
            refine lv_topi (fun v26 ev26 => ?_)
            obtain rfl : v26 = 0 := ev26.trans kn25
            refine lv_if_ne (tgt := 90) hx hb dX7_status_65 (by decide) (fun c27 => ?_) (fun c27 => ?_)
            · exact absurd c27 (by decide)
            · skip
              refine lv_aload_n hx hb dX7_status_68 rfl (lv_at hl 0 rfl) ?_
              refine zget (ci := 7) (C := RX7) (T := TX7) (N := 42) hx hb hts hi7 hown hK hP hM.1 rfl rfl 13 (by decide) (hts (.fieldLink RX7 44 "LinClusterModel" "statusIds" "[I") (by decide +kernel)) (fun _ h9 => h9) (v := .ref (ad 13)) (congrArg (fun z => some (va_rf z)) (((hM.eq hst.1).2.1 13 (by decide)).1)) dX7_status_69 ?_
              refine lv_iload_n hx hb dX7_status_72 rfl (lv_at hl 1 rfl) ?_
              refine lv_iload_n hx hb dX7_status_73 rfl (lv_at hl 2 rfl) ?_
              refine ziast (x := (nI i8)) hx hb hK hP hD hS (hM.2.1 13 (by decide)).2.1 (show G.2.2 (ad 13) = 8 from (hM.2.1 13 (by decide)).2.2) (vp_in_nI (n := j8) (N := 8) (by omega) (by omega)) dX7_status_74 (fun H locs hP hD hS => ?_)
              rw [(nI_clamp (n := j8) (by omega))] at hP hD
              have hst := zC.pa hM hst (k := 13) (by decide) (by decide) j8 (nI i8)
              have kn28 := zpi_af hM (zpi S mo 0 0) (k := 13) (by decide) j8 (nI i8) (i := 0) kn25
              have hI := hI.free hM (k := 13) (by decide) (by decide) j8 (nI i8)
              have kn29 := zpi_s (zpi S mo 0 0) (ad 13) j8 (nI i8)
              refine lv_aload_n hx hb dX7_status_75 rfl (lv_at hl 0 rfl) ?_
              refine zget (ci := 7) (C := RX7) (T := TX7) (N := 42) hx hb hts hi7 hown hK hP hM.1 rfl rfl 14 (by decide) (hts (.fieldLink RX7 47 "LinClusterModel" "statusBytes" "[I") (by decide +kernel)) (fun _ h9 => h9) (v := .ref (ad 14)) (congrArg (fun z => some (va_rf z)) (((hM.eq hst.1).2.1 14 (by decide)).1)) dX7_status_76 ?_
              refine lv_iload_n hx hb dX7_status_79 rfl (lv_at hl 1 rfl) ?_
              refine lv_iload_n hx hb dX7_status_80 rfl (lv_at hl 3 rfl) ?_
              refine ziast (x := (nI b8)) hx hb hK hP hD hS (hM.2.1 14 (by decide)).2.1 (show G.2.2 (ad 14) = 8 from (hM.2.1 14 (by decide)).2.2) (vp_in_nI (n := j8) (N := 8) (by omega) (by omega)) dX7_status_81 (fun H locs hP hD hS => ?_)
              rw [(nI_clamp (n := j8) (by omega))] at hP hD
              have hst := zC.pa hM hst (k := 14) (by decide) (by decide) j8 (nI b8)
              have kn30 := zpi_af hM (zpi (zpi S mo 0 0) (ad 13) j8 (nI i8)) (k := 14) (by decide) j8 (nI b8) (i := 0) kn28
              have kn31 := zpi_o hM (zpi (zpi S mo 0 0) (ad 13) j8 (nI i8)) (i := 13) (k := 14) (by decide) (by decide) (by decide) j8 (nI b8) kn29
              have hI := hI.sby hM (n := j8) (b := b8) (by omega)
              have kn32 := zpi_s (zpi (zpi S mo 0 0) (ad 13) j8 (nI i8)) (ad 14) j8 (nI b8)
              refine lv_aload_n hx hb dX7_status_82 rfl (lv_at hl 0 rfl) ?_
              refine zget (ci := 7) (C := RX7) (T := TX7) (N := 42) hx hb hts hi7 hown hK hP hM.1 rfl rfl 15 (by decide) (hts (.fieldLink RX7 50 "LinClusterModel" "statusBits" "[I") (by decide +kernel)) (fun _ h9 => h9) (v := .ref (ad 15)) (congrArg (fun z => some (va_rf z)) (((hM.eq hst.1).2.1 15 (by decide)).1)) dX7_status_83 ?_
              refine lv_iload_n hx hb dX7_status_86 rfl (lv_at hl 1 rfl) ?_
              refine lv_iload hx hb dX7_status_87 (lv_at hl 4 rfl) ?_
              refine ziast (x := k) hx hb hK hP hD hS (hM.2.1 15 (by decide)).2.1 (show G.2.2 (ad 15) = 8 from (hM.2.1 15 (by decide)).2.2) (vp_in_nI (n := j8) (N := 8) (by omega) (by omega)) dX7_status_89 (fun H locs hP hD hS => ?_)
              rw [(nI_clamp (n := j8) (by omega))] at hP hD
              have hst := zC.pa hM hst (k := 15) (by decide) (by decide) j8 k
              have kn33 := zpi_af hM (zpi (zpi (zpi S mo 0 0) (ad 13) j8 (nI i8)) (ad 14) j8 (nI b8)) (k := 15) (by decide) j8 k (i := 0) kn30
              have kn34 := zpi_o hM (zpi (zpi (zpi S mo 0 0) (ad 13) j8 (nI i8)) (ad 14) j8 (nI b8)) (i := 13) (k := 15) (by decide) (by decide) (by decide) j8 k kn31
              have kn35 := zpi_o hM (zpi (zpi (zpi S mo 0 0) (ad 13) j8 (nI i8)) (ad 14) j8 (nI b8)) (i := 14) (k := 15) (by decide) (by decide) (by decide) j8 k kn32
              have hI := hI.free hM (k := 15) (by decide) (by decide) j8 k
              have kn36 := zpi_s (zpi (zpi (zpi S mo 0 0) (ad 13) j8 (nI i8)) (ad 14) j8 (nI b8)) (ad 15) j8 k
              exact W.vret hx hb hr (fun t ht hW => ⟨⟨(zpi (zpi (zpi (zpi S mo 0 0) (ad 13) j8 (nI i8)) (ad 14) j8 (nI b8)) (ad 15) j8 k), rfl, ⟨⟨hst, hI⟩, ⟨_, zmo1 hi8 hth8, by rw [kn33]; exact (if_neg (fun z9 => z9.elim (zn8 hj8) (fun z8 => z8.elim (fun z7 => z7 (ev11.symm.trans c12)) (fun z7 => z7.elim (fun z6 => z6.elim (zii1 hr18 c19).1 (fun z5 => (zii1 hr18 c19).2 (by rw [ev17]; exact (zlm hL8 _).mpr (by rw [← eL8]; exact z5)))) (fun z6 => z6.elim (zii1 hr23 c24).1 (fun z5 => z5 (Int32.not_lt.mp (zii1 hr23 c24).2))))))).symm⟩⟩, by rw [ht]; exact hP, va_K.moved hW.alike hK, hD⟩, hS.F ht⟩) hS.2.2 dX7_status_90
          · skip
            refine lv_iconst (v := 1) hx hb dX7_status_53 (by decide) ?_
            refine lv_goto (tgt := 58) hx hb dX7_status_54 (by decide) ?_
            refine zputi (ci := 7) (v := 1) (ty := .int) (C := RX7) (T := TX7) (N := 42) hx hb hts hi7 tyX7 tyX7_ok nmX7 hown hK hP hD hS hM.1 rfl rfl 0 (by decide) (hts (.fieldLink RX7 117 "LinClusterModel" "thrown" "I") (by decide +kernel)) (fun _ h9 => h9) rfl (by decide +kernel) rfl rfl (Nat.le_of_ble_eq_true rfl) rfl dX7_status_58 (fun H locs hP hD hS => ?_)
            have hst := zC.pf hM hst (k := 0) (by decide) 1
            have hI := hI.ffree hM (k := 0) (by decide) 1
            have kn37 := zpi_s S mo 0 1
            refine lv_aload_n hx hb dX7_status_61 rfl (lv_at hl 0 rfl) ?_
            refine zget (ci := 7) (C := RX7) (T := TX7) (N := 42) hx hb hts hi7 hown hK hP hM.1 rfl rfl 0 (by decide) (hts (.fieldLink RX7 117 "LinClusterModel" "thrown" "I") (by decide +kernel)) (fun _ h9 => h9) rfl dX7_status_62 ?_
            refine lv_topi (fun v38 ev38 => ?_)
            obtain rfl : v38 = 1 := ev38.trans kn37
            refine lv_if_ne (tgt := 90) hx hb dX7_status_65 (by decide) (fun c39 => ?_) (fun c39 => ?_)
            · skip
              exact W.vret hx hb hr (fun t ht hW => ⟨⟨(zpi S mo 0 1), rfl, ⟨⟨hst, hI⟩, ⟨_, zmo1 hi8 hth8, by rw [kn37]; exact (if_pos (Or.inr (Or.inr (Or.inr ((zii0 hr23 c24).imp (fun q => q) Int32.not_le.mpr))))).symm⟩⟩, by rw [ht]; exact hP, va_K.moved hW.alike hK, hD⟩, hS.F ht⟩) hS.2.2 dX7_status_90
            · exact absurd c39 (by decide)
