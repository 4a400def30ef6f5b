set_option maxHeartbeats 4000000 in
set_option maxRecDepth 100000 in
theorem c_X7_disturb (l : Launch) (dC : Nat → ClassId) (dI : Nat → Nat → Nat) (cy : Nat → ClassId) (G : zG) (S : zS) (sz : Nat) (mo : Nat) (ad : Nat → Nat) (b v : Int32) (hM : zM G S mo ad) (hI : zI mo ad S) : Met l yX7_disturb wsX7_disturb ({ frames := 1, cells := 0, slots := 0, locals := 22 }) (zP dC dI cy [.ref mo, .int b, .int v] G S sz) (va_Qv (fun S' => (zC mo ad [39, 40] [0, 41] S S' ∧ zI mo ad S') ∧ True) (zB dC dI cy (zA cy G S sz) G) (zA cy G S sz)) 0 0 (zA cy G S sz) := by
  refine Met.ofW (cc := cX7_disturb) (maxL := 4) (ret := none) (by decide) rfl ?_
  intro p e s m args below meth c s₁ B hml hv
  obtain ⟨rfl, hsz, hP, hK, hD0, hN⟩ := hv
  have hx := B.exec
  have hb := B.bytes
  have hr := B.returns
  have hts := atoms_spec (ws := wsX7_disturb) B.pre
  have hown : s.vm.findClass RX7 = some m.cls := findClass_of_methodNamed B.named
  have hlocks := B.notSynchronized
  subst hsz
  have hD : va_D (zA cy G S s.heap.size) (zW cy G S) := hD0.self
  generalize hAe : zA cy G S s.heap.size = A at hD ⊢
  have hA : ∀ q : Nat, s.heap.size ≤ q → A q := fun q h => by rw [← hAe]; exact Or.inr h
  have hS : va_S A s.heap s.heap [] := va_S.rf
  have hst := zC.refl mo ad [39, 40] [0, 41] S
  have hl := lv_entry ([.ref mo, .int b, .int v]) (n := 4) (Nat.le_of_ble_eq_true rfl)
  rw [lg_entry_eq]
  generalize (lg_sl ([.ref mo, .int b, .int v]) ++ List.replicate (4 - (lg_sl ([.ref mo, .int b, .int v])).length) Slot.unset).toArray = ls at hl ⊢
  have hl : lv_has ls 4 [(0, .ref mo), (1, .int b), (2, .int v)] := hl
  have hi7 : ∀ w ∈ wsX70, w ∈ wsX7_disturb := by decide +kernel
  obtain ⟨d8, hd8, ed8⟩ := hI.2.2.2.2
  refine lv_iconst (v := 0) hx hb dX7_disturb_0 (by decide) ?_
  refine lv_istore_n (lv' := [(3, .int 0), (0, .ref mo), (1, .int b), (2, .int v)]) hx hb dX7_disturb_1 rfl hl (by decide) rfl (fun ls hl => ?_)
  refine zloopR d8 (fun k9 (_ : Unit) => [(0, .ref mo), (1, .int b), (2, .int v), (3, .int (nI k9))]) ?_ ?_ d8 0 () ls (Nat.zero_add _) (lv_sub hl [1, 2, 3, 0] rfl)
  · intro x9 ls hl
    have hl : lv_has ls 4 [(0, .ref mo), (1, .int b), (2, .int v), (3, .int (nI d8))] := hl
    refine lv_iload_n hx hb dX7_disturb_2 rfl (lv_at hl 3 rfl) ?_
    refine lv_aload_n hx hb dX7_disturb_3 rfl (lv_at hl 0 rfl) ?_
    refine zget (ci := 7) (C := RX7) (T := TX7) (N := 42) hx hb hts hi7 hown hK hP hM.1 rfl rfl 41 (by decide) (hts (.fieldLink RX7 137 "LinClusterModel" "disturbed" "I") (by decide +kernel)) (fun _ h9 => h9) rfl dX7_disturb_4 ?_
    refine lv_topi (fun v1 ev1 => ?_)
    obtain rfl : v1 = (nI d8) := ev1.trans ed8
    refine lv_icmp_ge (tgt := 31) hx hb dX7_disturb_7 (by decide) (fun c2 => ?_) (fun c2 => ?_)
    · skip
      refine lv_aload_n hx hb dX7_disturb_31 rfl (lv_at hl 0 rfl) ?_
      refine lv_iload_n hx hb dX7_disturb_32 rfl (lv_at hl 1 rfl) ?_
      refine lv_iconst (v := 0) hx hb dX7_disturb_33 (by decide) ?_
      refine lv_sipush (v := 4000) hx hb dX7_disturb_34 (by decide) ?_
      refine vp_callSi (va_Run.run (va_runS (As := [.int b, .int 0, .int 4000]) (rest := [.ref mo]) ⟨hx, hb, hml, hown, hts⟩ (c_X7_isIn l b 0 4000) (va_cwS 3 hts gX7_disturb_X7_isIn rfl rfl rfl (by decide +kernel) ⟨Nat.le_of_ble_eq_true rfl, Nat.le_of_ble_eq_true rfl⟩) zpreS0 rfl rfl hl.1 rfl (lv_room (Nat.le_of_ble_eq_true rfl)) dX7_disturb_37 ⟨Nat.le_of_ble_eq_true rfl, Nat.le_of_ble_eq_true rfl⟩)) (fun r3 hr3 => ?_)
      refine lv_if_eq (tgt := 52) hx hb dX7_disturb_40 (by decide) (fun c4 => ?_) (fun c4 => ?_)
      · skip
        refine lv_iconst (v := 1) hx hb dX7_disturb_52 (by decide) ?_
        refine lv_goto (tgt := 68) hx hb dX7_disturb_53 (by decide) ?_
        refine zputi (ci := 7) (v := 1) (ty := .int) (C := RX7) (T := TX7) (N := 42) hx hb hts hi7 tyX7 tyX7_ok nmX7 hown hK hP hD hS hM.1 rfl rfl 0 (by decide) (hts (.fieldLink RX7 117 "LinClusterModel" "thrown" "I") (by decide +kernel)) (fun _ h9 => h9) rfl (by decide +kernel) rfl rfl (Nat.le_of_ble_eq_true rfl) rfl dX7_disturb_68 (fun H locs hP hD hS => ?_)
        have hst := zC.pf hM hst (k := 0) (by decide) 1
        have kn5 := zpi_ff S mo 0 1 (i := 41) (by decide) ed8
        have hI := hI.ffree hM (k := 0) (by decide) 1
        have kn6 := zpi_s S mo 0 1
        refine lv_aload_n hx hb dX7_disturb_71 rfl (lv_at hl 0 rfl) ?_
        refine zget (ci := 7) (C := RX7) (T := TX7) (N := 42) hx hb hts hi7 hown hK hP hM.1 rfl rfl 0 (by decide) (hts (.fieldLink RX7 117 "LinClusterModel" "thrown" "I") (by decide +kernel)) (fun _ h9 => h9) rfl dX7_disturb_72 ?_
        refine lv_topi (fun v7 ev7 => ?_)
        obtain rfl : v7 = 1 := ev7.trans kn6
        refine lv_if_le (tgt := 79) hx hb dX7_disturb_75 (by decide) (fun c8 => ?_) (fun c8 => ?_)
        · exact absurd c8 (by decide)
        · skip
          exact W.vret hx hb hr (fun t ht hW => ⟨⟨(zpi S mo 0 1), rfl, ⟨⟨hst, hI⟩, trivial⟩, by rw [ht]; exact hP, va_K.moved hW.alike hK, hD⟩, hS.F ht⟩) hS.2.2 dX7_disturb_78
      · skip
        refine lv_iload_n hx hb dX7_disturb_43 rfl (lv_at hl 2 rfl) ?_
        refine lv_iconst (v := 0) hx hb dX7_disturb_44 (by decide) ?_
        refine lv_iconst (v := 1) hx hb dX7_disturb_45 (by decide) ?_
        refine vp_callSi (va_Run.run (va_runS (As := [.int v, .int 0, .int 1]) (rest := [.ref mo]) ⟨hx, hb, hml, hown, hts⟩ (c_X7_isIn l v 0 1) (va_cwS 3 hts gX7_disturb_X7_isIn rfl rfl rfl (by decide +kernel) ⟨Nat.le_of_ble_eq_true rfl, Nat.le_of_ble_eq_true rfl⟩) zpreS0 rfl rfl hl.1 rfl (lv_room (Nat.le_of_ble_eq_true rfl)) dX7_disturb_46 ⟨Nat.le_of_ble_eq_true rfl, Nat.le_of_ble_eq_true rfl⟩)) (fun r9 hr9 => ?_)
        refine lv_if_ne (tgt := 56) hx hb dX7_disturb_49 (by decide) (fun c10 => ?_) (fun c10 => ?_)
        · skip
          refine lv_iload_n hx hb dX7_disturb_56 rfl (lv_at hl 3 rfl) ?_
          refine lv_sipush (v := 200) hx hb dX7_disturb_57 (by decide) ?_
          refine lv_icmp_ne (tgt := 67) hx hb dX7_disturb_60 (by decide) (fun c11 => ?_) (fun c11 => ?_)
          · skip
            have hk200 : d8 < 200 := by rcases Nat.lt_or_ge d8 200 with z | z; exact z; exact absurd (by rw [show d8 = 200 by omega]; rfl) c11
            refine lv_iconst (v := 0) hx hb dX7_disturb_67 (by decide) ?_
            refine zputi (ci := 7) (v := 0) (ty := .int) (C := RX7) (T := TX7) (N := 42) hx hb hts hi7 tyX7 tyX7_ok nmX7 hown hK hP hD hS hM.1 rfl rfl 0 (by decide) (hts (.fieldLink RX7 117 "LinClusterModel" "thrown" "I") (by decide +kernel)) (fun _ h9 => h9) rfl (by decide +kernel) rfl rfl (Nat.le_of_ble_eq_true rfl) rfl dX7_disturb_68 (fun H locs hP hD hS => ?_)
            have hst := zC.pf hM hst (k := 0) (by decide) 0
            have kn12 := zpi_ff S mo 0 0 (i := 41) (by decide) ed8
            have hI := hI.ffree hM (k := 0) (by decide) 0
            have kn13 := zpi_s S mo 0 0
            refine lv_aload_n hx hb dX7_disturb_71 rfl (lv_at hl 0 rfl) ?_
            refine zget (ci := 7) (C := RX7) (T := TX7) (N := 42) hx hb hts hi7 hown hK hP hM.1 rfl rfl 0 (by decide) (hts (.fieldLink RX7 117 "LinClusterModel" "thrown" "I") (by decide +kernel)) (fun _ h9 => h9) rfl dX7_disturb_72 ?_
            refine lv_topi (fun v14 ev14 => ?_)
            obtain rfl : v14 = 0 := ev14.trans kn13
            refine lv_if_le (tgt := 79) hx hb dX7_disturb_75 (by decide) (fun c15 => ?_) (fun c15 => ?_)
            · skip
              refine lv_aload_n hx hb dX7_disturb_79 rfl (lv_at hl 0 rfl) ?_
              refine zget (ci := 7) (C := RX7) (T := TX7) (N := 42) hx hb hts hi7 hown hK hP hM.1 rfl rfl 39 (by decide) (hts (.fieldLink RX7 111 "LinClusterModel" "disturbedAt" "[I") (by decide +kernel)) (fun _ h9 => h9) (v := .ref (ad 39)) (congrArg (fun z => some (va_rf z)) (((hM.eq hst.1).2.1 39 (by decide)).1)) dX7_disturb_80 ?_
              refine lv_iload_n hx hb dX7_disturb_83 rfl (lv_at hl 3 rfl) ?_
              refine lv_aload_n hx hb dX7_disturb_84 rfl (lv_at hl 0 rfl) ?_
              refine zget (ci := 7) (C := RX7) (T := TX7) (N := 42) hx hb hts hi7 hown hK hP hM.1 rfl rfl 33 (by decide) (hts (.fieldLink RX7 128 "LinClusterModel" "time" "I") (by decide +kernel)) (fun _ h9 => h9) rfl dX7_disturb_85 ?_
              refine lv_topi (fun v16 ev16 => ?_)
              refine lv_iload_n hx hb dX7_disturb_88 rfl (lv_at hl 1 rfl) ?_
              refine lv_iadd hx hb dX7_disturb_89 ?_
              refine lv_topi (fun v17 ev17 => ?_)
              refine ziast (x := v17) hx hb hK hP hD hS (hM.2.1 39 (by decide)).2.1 (show G.2.2 (ad 39) = 200 from (hM.2.1 39 (by decide)).2.2) (vp_in_nI (n := d8) (N := 200) (by omega) (by omega)) dX7_disturb_90 (fun H locs hP hD hS => ?_)
              rw [(nI_clamp (n := d8) (by omega))] at hP hD
              have hst := zC.pa hM hst (k := 39) (by decide) (by decide) d8 v17
              have kn18 := zpi_af hM (zpi S mo 0 0) (k := 39) (by decide) d8 v17 (i := 41) kn12
              have kn19 := zpi_af hM (zpi S mo 0 0) (k := 39) (by decide) d8 v17 (i := 0) kn13
              have hI := hI.free hM (k := 39) (by decide) (by decide) d8 v17
              have kn20 := zpi_s (zpi S mo 0 0) (ad 39) d8 v17
              refine lv_aload_n hx hb dX7_disturb_91 rfl (lv_at hl 0 rfl) ?_
              refine zget (ci := 7) (C := RX7) (T := TX7) (N := 42) hx hb hts hi7 hown hK hP hM.1 rfl rfl 40 (by decide) (hts (.fieldLink RX7 114 "LinClusterModel" "disturbedTo" "[I") (by decide +kernel)) (fun _ h9 => h9) (v := .ref (ad 40)) (congrArg (fun z => some (va_rf z)) (((hM.eq hst.1).2.1 40 (by decide)).1)) dX7_disturb_92 ?_
              refine lv_iload_n hx hb dX7_disturb_95 rfl (lv_at hl 3 rfl) ?_
              refine lv_iload_n hx hb dX7_disturb_96 rfl (lv_at hl 2 rfl) ?_
              refine ziast (x := v) hx hb hK hP hD hS (hM.2.1 40 (by decide)).2.1 (show G.2.2 (ad 40) = 200 from (hM.2.1 40 (by decide)).2.2) (vp_in_nI (n := d8) (N := 200) (by omega) (by omega)) dX7_disturb_97 (fun H locs hP hD hS => ?_)
              rw [(nI_clamp (n := d8) (by omega))] at hP hD
              have hst := zC.pa hM hst (k := 40) (by decide) (by decide) d8 v
              have kn21 := zpi_af hM (zpi (zpi S mo 0 0) (ad 39) d8 v17) (k := 40) (by decide) d8 v (i := 41) kn18
              have kn22 := zpi_af hM (zpi (zpi S mo 0 0) (ad 39) d8 v17) (k := 40) (by decide) d8 v (i := 0) kn19
              have kn23 := zpi_o hM (zpi (zpi S mo 0 0) (ad 39) d8 v17) (i := 39) (k := 40) (by decide) (by decide) (by decide) d8 v kn20
              have hI := hI.free hM (k := 40) (by decide) (by decide) d8 v
              have kn24 := zpi_s (zpi (zpi S mo 0 0) (ad 39) d8 v17) (ad 40) d8 v
              refine lv_aload_n hx hb dX7_disturb_98 rfl (lv_at hl 0 rfl) ?_
              refine lv_iload_n hx hb dX7_disturb_99 rfl (lv_at hl 3 rfl) ?_
              refine lv_aload_n hx hb dX7_disturb_100 rfl (lv_at hl 0 rfl) ?_
              refine zget (ci := 7) (C := RX7) (T := TX7) (N := 42) hx hb hts hi7 hown hK hP hM.1 rfl rfl 41 (by decide) (hts (.fieldLink RX7 137 "LinClusterModel" "disturbed" "I") (by decide +kernel)) (fun _ h9 => h9) rfl dX7_disturb_101 ?_
              refine lv_topi (fun v25 ev25 => ?_)
              obtain rfl : v25 = (nI d8) := ev25.trans kn21
              refine lv_icmp_ne (tgt := 116) hx hb dX7_disturb_104 (by decide) (fun c26 => ?_) (fun c26 => ?_)
              · skip
                refine lv_aload_n hx hb dX7_disturb_116 rfl (lv_at hl 0 rfl) ?_
                refine zget (ci := 7) (C := RX7) (T := TX7) (N := 42) hx hb hts hi7 hown hK hP hM.1 rfl rfl 41 (by decide) (hts (.fieldLink RX7 137 "LinClusterModel" "disturbed" "I") (by decide +kernel)) (fun _ h9 => h9) rfl dX7_disturb_117 ?_
                refine lv_topi (fun v27 ev27 => ?_)
                obtain rfl : v27 = (nI d8) := ev27.trans kn21
                refine zputi (ci := 7) (v := (nI d8)) (ty := .int) (C := RX7) (T := TX7) (N := 42) hx hb hts hi7 tyX7 tyX7_ok nmX7 hown hK hP hD hS hM.1 rfl rfl 41 (by decide) (hts (.fieldLink RX7 137 "LinClusterModel" "disturbed" "I") (by decide +kernel)) (fun _ h9 => h9) rfl (by decide +kernel) rfl rfl (Nat.le_of_ble_eq_true rfl) rfl dX7_disturb_120 (fun H locs hP hD hS => ?_)
                have hst := zC.pf hM hst (k := 41) (by decide) (nI d8)
                have kn28 := zpi_ff (zpi (zpi (zpi S mo 0 0) (ad 39) d8 v17) (ad 40) d8 v) mo 41 (nI d8) (i := 0) (by decide) kn22
                have kn29 := zpi_f hM (zpi (zpi (zpi S mo 0 0) (ad 39) d8 v17) (ad 40) d8 v) (i := 39) (by decide) 41 (nI d8) kn23
                have kn30 := zpi_f hM (zpi (zpi (zpi S mo 0 0) (ad 39) d8 v17) (ad 40) d8 v) (i := 40) (by decide) 41 (nI d8) kn24
                have hI := hI.dist hM (q := d8) (by omega)
                have kn31 := zpi_s (zpi (zpi (zpi S mo 0 0) (ad 39) d8 v17) (ad 40) d8 v) mo 41 (nI d8)
                exact W.vret hx hb hr (fun t ht hW => ⟨⟨(zpi (zpi (zpi (zpi S mo 0 0) (ad 39) d8 v17) (ad 40) d8 v) mo 41 (nI d8)), rfl, ⟨⟨hst, hI⟩, trivial⟩, by rw [ht]; exact hP, va_K.moved hW.alike hK, hD⟩, hS.F ht⟩) hS.2.2 dX7_disturb_123
              · skip
                have hkd : d8 = d8 := (nI_eq (by omega) (by omega)).mp c26
                refine lv_aload_n hx hb dX7_disturb_107 rfl (lv_at hl 0 rfl) ?_
                refine zget (ci := 7) (C := RX7) (T := TX7) (N := 42) hx hb hts hi7 hown hK hP hM.1 rfl rfl 41 (by decide) (hts (.fieldLink RX7 137 "LinClusterModel" "disturbed" "I") (by decide +kernel)) (fun _ h9 => h9) rfl dX7_disturb_108 ?_
                refine lv_topi (fun v32 ev32 => ?_)
                obtain rfl : v32 = (nI d8) := ev32.trans kn21
                refine lv_iconst (v := 1) hx hb dX7_disturb_111 (by decide) ?_
                refine lv_iadd hx hb dX7_disturb_112 ?_
                refine lv_topi (fun v33 ev33 => ?_)
                obtain rfl : v33 = nI (d8 + 1) := ev33.trans (nI_add d8 1)
                refine lv_goto (tgt := 120) hx hb dX7_disturb_113 (by decide) ?_
                refine zputi (ci := 7) (v := (nI (d8 + 1))) (ty := .int) (C := RX7) (T := TX7) (N := 42) hx hb hts hi7 tyX7 tyX7_ok nmX7 hown hK hP hD hS hM.1 rfl rfl 41 (by decide) (hts (.fieldLink RX7 137 "LinClusterModel" "disturbed" "I") (by decide +kernel)) (fun _ h9 => h9) rfl (by decide +kernel) rfl rfl (Nat.le_of_ble_eq_true rfl) rfl dX7_disturb_120 (fun H locs hP hD hS => ?_)
                have hst := zC.pf hM hst (k := 41) (by decide) (nI (d8 + 1))
                have kn34 := zpi_ff (zpi (zpi (zpi S mo 0 0) (ad 39) d8 v17) (ad 40) d8 v) mo 41 (nI (d8 + 1)) (i := 0) (by decide) kn22
                have kn35 := zpi_f hM (zpi (zpi (zpi S mo 0 0) (ad 39) d8 v17) (ad 40) d8 v) (i := 39) (by decide) 41 (nI (d8 + 1)) kn23
                have kn36 := zpi_f hM (zpi (zpi (zpi S mo 0 0) (ad 39) d8 v17) (ad 40) d8 v) (i := 40) (by decide) 41 (nI (d8 + 1)) kn24
                have hI := hI.dist hM (q := (d8 + 1)) (by omega)
                have kn37 := zpi_s (zpi (zpi (zpi S mo 0 0) (ad 39) d8 v17) (ad 40) d8 v) mo 41 (nI (d8 + 1))
                exact W.vret hx hb hr (fun t ht hW => ⟨⟨(zpi (zpi (zpi (zpi S mo 0 0) (ad 39) d8 v17) (ad 40) d8 v) mo 41 (nI (d8 + 1))), rfl, ⟨⟨hst, hI⟩, trivial⟩, by rw [ht]; exact hP, va_K.moved hW.alike hK, hD⟩, hS.F ht⟩) hS.2.2 dX7_disturb_123
            · exact absurd c15 (by decide)
          · skip
            refine lv_iconst (v := 2) hx hb dX7_disturb_63 (by decide) ?_
            refine lv_goto (tgt := 68) hx hb dX7_disturb_64 (by decide) ?_
            refine zputi (ci := 7) (v := 2) (ty := .int) (C := RX7) (T := TX7) (N := 42) hx hb hts hi7 tyX7 tyX7_ok nmX7 hown hK hP hD hS hM.1 rfl rfl 0 (by decide) (hts (.fieldLink RX7 117 "LinClusterModel" "thrown" "I") (by decide +kernel)) (fun _ h9 => h9) rfl (by decide +kernel) rfl rfl (Nat.le_of_ble_eq_true rfl) rfl dX7_disturb_68 (fun H locs hP hD hS => ?_)
            have hst := zC.pf hM hst (k := 0) (by decide) 2
            have kn38 := zpi_ff S mo 0 2 (i := 41) (by decide) ed8
            have hI := hI.ffree hM (k := 0) (by decide) 2
            have kn39 := zpi_s S mo 0 2
            refine lv_aload_n hx hb dX7_disturb_71 rfl (lv_at hl 0 rfl) ?_
            refine zget (ci := 7) (C := RX7) (T := TX7) (N := 42) hx hb hts hi7 hown hK hP hM.1 rfl rfl 0 (by decide) (hts (.fieldLink RX7 117 "LinClusterModel" "thrown" "I") (by decide +kernel)) (fun _ h9 => h9) rfl dX7_disturb_72 ?_
            refine lv_topi (fun v40 ev40 => ?_)
            obtain rfl : v40 = 2 := ev40.trans kn39
            refine lv_if_le (tgt := 79) hx hb dX7_disturb_75 (by decide) (fun c41 => ?_) (fun c41 => ?_)
            · exact absurd c41 (by decide)
            · skip
              exact W.vret hx hb hr (fun t ht hW => ⟨⟨(zpi S mo 0 2), rfl, ⟨⟨hst, hI⟩, trivial⟩, by rw [ht]; exact hP, va_K.moved hW.alike hK, hD⟩, hS.F ht⟩) hS.2.2 dX7_disturb_78
        · skip
          refine lv_iconst (v := 1) hx hb dX7_disturb_52 (by decide) ?_
          refine lv_goto (tgt := 68) hx hb dX7_disturb_53 (by decide) ?_
          refine zputi (ci := 7) (v := 1) (ty := .int) (C := RX7) (T := TX7) (N := 42) hx hb hts hi7 tyX7 tyX7_ok nmX7 hown hK hP hD hS hM.1 rfl rfl 0 (by decide) (hts (.fieldLink RX7 117 "LinClusterModel" "thrown" "I") (by decide +kernel)) (fun _ h9 => h9) rfl (by decide +kernel) rfl rfl (Nat.le_of_ble_eq_true rfl) rfl dX7_disturb_68 (fun H locs hP hD hS => ?_)
          have hst := zC.pf hM hst (k := 0) (by decide) 1
          have kn42 := zpi_ff S mo 0 1 (i := 41) (by decide) ed8
          have hI := hI.ffree hM (k := 0) (by decide) 1
          have kn43 := zpi_s S mo 0 1
          refine lv_aload_n hx hb dX7_disturb_71 rfl (lv_at hl 0 rfl) ?_
          refine zget (ci := 7) (C := RX7) (T := TX7) (N := 42) hx hb hts hi7 hown hK hP hM.1 rfl rfl 0 (by decide) (hts (.fieldLink RX7 117 "LinClusterModel" "thrown" "I") (by decide +kernel)) (fun _ h9 => h9) rfl dX7_disturb_72 ?_
          refine lv_topi (fun v44 ev44 => ?_)
          obtain rfl : v44 = 1 := ev44.trans kn43
          refine lv_if_le (tgt := 79) hx hb dX7_disturb_75 (by decide) (fun c45 => ?_) (fun c45 => ?_)
          · exact absurd c45 (by decide)
          · skip
            exact W.vret hx hb hr (fun t ht hW => ⟨⟨(zpi S mo 0 1), rfl, ⟨⟨hst, hI⟩, trivial⟩, by rw [ht]; exact hP, va_K.moved hW.alike hK, hD⟩, hS.F ht⟩) hS.2.2 dX7_disturb_78
    · exact absurd (nI_le (a := d8) (b := d8) (Nat.le_refl _) (by omega)) c2
  · intro n8 k9 x9 ls hk9 ih hl
    have hl : lv_has ls 4 [(0, .ref mo), (1, .int b), (2, .int v), (3, .int (nI k9))] := hl
    refine lv_iload_n hx hb dX7_disturb_2 rfl (lv_at hl 3 rfl) ?_
    refine lv_aload_n hx hb dX7_disturb_3 rfl (lv_at hl 0 rfl) ?_
    refine zget (ci := 7) (C := RX7) (T := TX7) (N := 42) hx hb hts hi7 hown hK hP hM.1 rfl rfl 41 (by decide) (hts (.fieldLink RX7 137 "LinClusterModel" "disturbed" "I") (by decide +kernel)) (fun _ h9 => h9) rfl dX7_disturb_4 ?_
    refine lv_topi (fun v46 ev46 => ?_)
    obtain rfl : v46 = (nI d8) := ev46.trans ed8
    refine lv_icmp_ge (tgt := 31) hx hb dX7_disturb_7 (by decide) (fun c47 => ?_) (fun c47 => ?_)
    · exact absurd c47 (nI_ge (a := k9) (b := d8) (by omega) (by omega))
    · skip
      refine lv_aload_n hx hb dX7_disturb_10 rfl (lv_at hl 0 rfl) ?_
      refine zget (ci := 7) (C := RX7) (T := TX7) (N := 42) hx hb hts hi7 hown hK hP hM.1 rfl rfl 39 (by decide) (hts (.fieldLink RX7 111 "LinClusterModel" "disturbedAt" "[I") (by decide +kernel)) (fun _ h9 => h9) (v := .ref (ad 39)) (congrArg (fun z => some (va_rf z)) (((hM.eq hst.1).2.1 39 (by decide)).1)) dX7_disturb_11 ?_
      refine lv_iload_n hx hb dX7_disturb_14 rfl (lv_at hl 3 rfl) ?_
      refine ziald hx hb hK hP (hM.2.1 39 (by decide)).2.1 (show G.2.2 (ad 39) = 200 from (hM.2.1 39 (by decide)).2.2) (vp_in_nI (n := k9) (N := 200) (by omega) (by omega)) dX7_disturb_15 ?_
      refine lv_topi (fun v48 ev48 => ?_)
      rw [(nI_clamp (n := k9) (by omega))] at ev48
      refine lv_aload_n hx hb dX7_disturb_16 rfl (lv_at hl 0 rfl) ?_
      refine zget (ci := 7) (C := RX7) (T := TX7) (N := 42) hx hb hts hi7 hown hK hP hM.1 rfl rfl 33 (by decide) (hts (.fieldLink RX7 128 "LinClusterModel" "time" "I") (by decide +kernel)) (fun _ h9 => h9) rfl dX7_disturb_17 ?_
      refine lv_topi (fun v49 ev49 => ?_)
      refine lv_iload_n hx hb dX7_disturb_20 rfl (lv_at hl 1 rfl) ?_
      refine lv_iadd hx hb dX7_disturb_21 ?_
      refine lv_topi (fun v50 ev50 => ?_)
      refine lv_icmp_eq (tgt := 31) hx hb dX7_disturb_22 (by decide) (fun c51 => ?_) (fun c51 => ?_)
      · skip
        refine lv_aload_n hx hb dX7_disturb_31 rfl (lv_at hl 0 rfl) ?_
        refine lv_iload_n hx hb dX7_disturb_32 rfl (lv_at hl 1 rfl) ?_
        refine lv_iconst (v := 0) hx hb dX7_disturb_33 (by decide) ?_
        refine lv_sipush (v := 4000) hx hb dX7_disturb_34 (by decide) ?_
        refine vp_callSi (va_Run.run (va_runS (As := [.int b, .int 0, .int 4000]) (rest := [.ref mo]) ⟨hx, hb, hml, hown, hts⟩ (c_X7_isIn l b 0 4000) (va_cwS 3 hts gX7_disturb_X7_isIn rfl rfl rfl (by decide +kernel) ⟨Nat.le_of_ble_eq_true rfl, Nat.le_of_ble_eq_true rfl⟩) zpreS0 rfl rfl hl.1 rfl (lv_room (Nat.le_of_ble_eq_true rfl)) dX7_disturb_37 ⟨Nat.le_of_ble_eq_true rfl, Nat.le_of_ble_eq_true rfl⟩)) (fun r52 hr52 => ?_)
        refine lv_if_eq (tgt := 52) hx hb dX7_disturb_40 (by decide) (fun c53 => ?_) (fun c53 => ?_)
        · skip
          refine lv_iconst (v := 1) hx hb dX7_disturb_52 (by decide) ?_
          refine lv_goto (tgt := 68) hx hb dX7_disturb_53 (by decide) ?_
          refine zputi (ci := 7) (v := 1) (ty := .int) (C := RX7) (T := TX7) (N := 42) hx hb hts hi7 tyX7 tyX7_ok nmX7 hown hK hP hD hS hM.1 rfl rfl 0 (by decide) (hts (.fieldLink RX7 117 "LinClusterModel" "thrown" "I") (by decide +kernel)) (fun _ h9 => h9) rfl (by decide +kernel) rfl rfl (Nat.le_of_ble_eq_true rfl) rfl dX7_disturb_68 (fun H locs hP hD hS => ?_)
          have hst := zC.pf hM hst (k := 0) (by decide) 1
          have kn54 := zpi_ff S mo 0 1 (i := 41) (by decide) ed8
          have hI := hI.ffree hM (k := 0) (by decide) 1
          have kn55 := zpi_s S mo 0 1
          refine lv_aload_n hx hb dX7_disturb_71 rfl (lv_at hl 0 rfl) ?_
          refine zget (ci := 7) (C := RX7) (T := TX7) (N := 42) hx hb hts hi7 hown hK hP hM.1 rfl rfl 0 (by decide) (hts (.fieldLink RX7 117 "LinClusterModel" "thrown" "I") (by decide +kernel)) (fun _ h9 => h9) rfl dX7_disturb_72 ?_
          refine lv_topi (fun v56 ev56 => ?_)
          obtain rfl : v56 = 1 := ev56.trans kn55
          refine lv_if_le (tgt := 79) hx hb dX7_disturb_75 (by decide) (fun c57 => ?_) (fun c57 => ?_)
          · exact absurd c57 (by decide)
          · skip
            exact W.vret hx hb hr (fun t ht hW => ⟨⟨(zpi S mo 0 1), rfl, ⟨⟨hst, hI⟩, trivial⟩, by rw [ht]; exact hP, va_K.moved hW.alike hK, hD⟩, hS.F ht⟩) hS.2.2 dX7_disturb_78
        · skip
          refine lv_iload_n hx hb dX7_disturb_43 rfl (lv_at hl 2 rfl) ?_
          refine lv_iconst (v := 0) hx hb dX7_disturb_44 (by decide) ?_
          refine lv_iconst (v := 1) hx hb dX7_disturb_45 (by decide) ?_
          refine vp_callSi (va_Run.run (va_runS (As := [.int v, .int 0, .int 1]) (rest := [.ref mo]) ⟨hx, hb, hml, hown, hts⟩ (c_X7_isIn l v 0 1) (va_cwS 3 hts gX7_disturb_X7_isIn rfl rfl rfl (by decide +kernel) ⟨Nat.le_of_ble_eq_true rfl, Nat.le_of_ble_eq_true rfl⟩) zpreS0 rfl rfl hl.1 rfl (lv_room (Nat.le_of_ble_eq_true rfl)) dX7_disturb_46 ⟨Nat.le_of_ble_eq_true rfl, Nat.le_of_ble_eq_true rfl⟩)) (fun r58 hr58 => ?_)
          refine lv_if_ne (tgt := 56) hx hb dX7_disturb_49 (by decide) (fun c59 => ?_) (fun c59 => ?_)
          · skip
            refine lv_iload_n hx hb dX7_disturb_56 rfl (lv_at hl 3 rfl) ?_
            refine lv_sipush (v := 200) hx hb dX7_disturb_57 (by decide) ?_
            refine lv_icmp_ne (tgt := 67) hx hb dX7_disturb_60 (by decide) (fun c60 => ?_) (fun c60 => ?_)
            · skip
              have hk200 : k9 < 200 := by rcases Nat.lt_or_ge k9 200 with z | z; exact z; exact absurd (by rw [show k9 = 200 by omega]; rfl) c60
              refine lv_iconst (v := 0) hx hb dX7_disturb_67 (by decide) ?_
              refine zputi (ci := 7) (v := 0) (ty := .int) (C := RX7) (T := TX7) (N := 42) hx hb hts hi7 tyX7 tyX7_ok nmX7 hown hK hP hD hS hM.1 rfl rfl 0 (by decide) (hts (.fieldLink RX7 117 "LinClusterModel" "thrown" "I") (by decide +kernel)) (fun _ h9 => h9) rfl (by decide +kernel) rfl rfl (Nat.le_of_ble_eq_true rfl) rfl dX7_disturb_68 (fun H locs hP hD hS => ?_)
              have hst := zC.pf hM hst (k := 0) (by decide) 0
              have kn61 := zpi_ff S mo 0 0 (i := 41) (by decide) ed8
              have hI := hI.ffree hM (k := 0) (by decide) 0
              have kn62 := zpi_s S mo 0 0
              refine lv_aload_n hx hb dX7_disturb_71 rfl (lv_at hl 0 rfl) ?_
              refine zget (ci := 7) (C := RX7) (T := TX7) (N := 42) hx hb hts hi7 hown hK hP hM.1 rfl rfl 0 (by decide) (hts (.fieldLink RX7 117 "LinClusterModel" "thrown" "I") (by decide +kernel)) (fun _ h9 => h9) rfl dX7_disturb_72 ?_
              refine lv_topi (fun v63 ev63 => ?_)
              obtain rfl : v63 = 0 := ev63.trans kn62
              refine lv_if_le (tgt := 79) hx hb dX7_disturb_75 (by decide) (fun c64 => ?_) (fun c64 => ?_)
              · skip
                refine lv_aload_n hx hb dX7_disturb_79 rfl (lv_at hl 0 rfl) ?_
                refine zget (ci := 7) (C := RX7) (T := TX7) (N := 42) hx hb hts hi7 hown hK hP hM.1 rfl rfl 39 (by decide) (hts (.fieldLink RX7 111 "LinClusterModel" "disturbedAt" "[I") (by decide +kernel)) (fun _ h9 => h9) (v := .ref (ad 39)) (congrArg (fun z => some (va_rf z)) (((hM.eq hst.1).2.1 39 (by decide)).1)) dX7_disturb_80 ?_
                refine lv_iload_n hx hb dX7_disturb_83 rfl (lv_at hl 3 rfl) ?_
                refine lv_aload_n hx hb dX7_disturb_84 rfl (lv_at hl 0 rfl) ?_
                refine zget (ci := 7) (C := RX7) (T := TX7) (N := 42) hx hb hts hi7 hown hK hP hM.1 rfl rfl 33 (by decide) (hts (.fieldLink RX7 128 "LinClusterModel" "time" "I") (by decide +kernel)) (fun _ h9 => h9) rfl dX7_disturb_85 ?_
                refine lv_topi (fun v65 ev65 => ?_)
                refine lv_iload_n hx hb dX7_disturb_88 rfl (lv_at hl 1 rfl) ?_
                refine lv_iadd hx hb dX7_disturb_89 ?_
                refine lv_topi (fun v66 ev66 => ?_)
                refine ziast (x := v66) hx hb hK hP hD hS (hM.2.1 39 (by decide)).2.1 (show G.2.2 (ad 39) = 200 from (hM.2.1 39 (by decide)).2.2) (vp_in_nI (n := k9) (N := 200) (by omega) (by omega)) dX7_disturb_90 (fun H locs hP hD hS => ?_)
                rw [(nI_clamp (n := k9) (by omega))] at hP hD
                have hst := zC.pa hM hst (k := 39) (by decide) (by decide) k9 v66
                have kn67 := zpi_af hM (zpi S mo 0 0) (k := 39) (by decide) k9 v66 (i := 41) kn61
                have kn68 := zpi_af hM (zpi S mo 0 0) (k := 39) (by decide) k9 v66 (i := 0) kn62
                have hI := hI.free hM (k := 39) (by decide) (by decide) k9 v66
                have kn69 := zpi_s (zpi S mo 0 0) (ad 39) k9 v66
                refine lv_aload_n hx hb dX7_disturb_91 rfl (lv_at hl 0 rfl) ?_
                refine zget (ci := 7) (C := RX7) (T := TX7) (N := 42) hx hb hts hi7 hown hK hP hM.1 rfl rfl 40 (by decide) (hts (.fieldLink RX7 114 "LinClusterModel" "disturbedTo" "[I") (by decide +kernel)) (fun _ h9 => h9) (v := .ref (ad 40)) (congrArg (fun z => some (va_rf z)) (((hM.eq hst.1).2.1 40 (by decide)).1)) dX7_disturb_92 ?_
                refine lv_iload_n hx hb dX7_disturb_95 rfl (lv_at hl 3 rfl) ?_
                refine lv_iload_n hx hb dX7_disturb_96 rfl (lv_at hl 2 rfl) ?_
                refine ziast (x := v) hx hb hK hP hD hS (hM.2.1 40 (by decide)).2.1 (show G.2.2 (ad 40) = 200 from (hM.2.1 40 (by decide)).2.2) (vp_in_nI (n := k9) (N := 200) (by omega) (by omega)) dX7_disturb_97 (fun H locs hP hD hS => ?_)
                rw [(nI_clamp (n := k9) (by omega))] at hP hD
                have hst := zC.pa hM hst (k := 40) (by decide) (by decide) k9 v
                have kn70 := zpi_af hM (zpi (zpi S mo 0 0) (ad 39) k9 v66) (k := 40) (by decide) k9 v (i := 41) kn67
                have kn71 := zpi_af hM (zpi (zpi S mo 0 0) (ad 39) k9 v66) (k := 40) (by decide) k9 v (i := 0) kn68
                have kn72 := zpi_o hM (zpi (zpi S mo 0 0) (ad 39) k9 v66) (i := 39) (k := 40) (by decide) (by decide) (by decide) k9 v kn69
                have hI := hI.free hM (k := 40) (by decide) (by decide) k9 v
                have kn73 := zpi_s (zpi (zpi S mo 0 0) (ad 39) k9 v66) (ad 40) k9 v
                refine lv_aload_n hx hb dX7_disturb_98 rfl (lv_at hl 0 rfl) ?_
                refine lv_iload_n hx hb dX7_disturb_99 rfl (lv_at hl 3 rfl) ?_
                refine lv_aload_n hx hb dX7_disturb_100 rfl (lv_at hl 0 rfl) ?_
                refine zget (ci := 7) (C := RX7) (T := TX7) (N := 42) hx hb hts hi7 hown hK hP hM.1 rfl rfl 41 (by decide) (hts (.fieldLink RX7 137 "LinClusterModel" "disturbed" "I") (by decide +kernel)) (fun _ h9 => h9) rfl dX7_disturb_101 ?_
                refine lv_topi (fun v74 ev74 => ?_)
                obtain rfl : v74 = (nI d8) := ev74.trans kn70
                refine lv_icmp_ne (tgt := 116) hx hb dX7_disturb_104 (by decide) (fun c75 => ?_) (fun c75 => ?_)
                · skip
                  refine lv_aload_n hx hb dX7_disturb_116 rfl (lv_at hl 0 rfl) ?_
                  refine zget (ci := 7) (C := RX7) (T := TX7) (N := 42) hx hb hts hi7 hown hK hP hM.1 rfl rfl 41 (by decide) (hts (.fieldLink RX7 137 "LinClusterModel" "disturbed" "I") (by decide +kernel)) (fun _ h9 => h9) rfl dX7_disturb_117 ?_
                  refine lv_topi (fun v76 ev76 => ?_)
                  obtain rfl : v76 = (nI d8) := ev76.trans kn70
                  refine zputi (ci := 7) (v := (nI d8)) (ty := .int) (C := RX7) (T := TX7) (N := 42) hx hb hts hi7 tyX7 tyX7_ok nmX7 hown hK hP hD hS hM.1 rfl rfl 41 (by decide) (hts (.fieldLink RX7 137 "LinClusterModel" "disturbed" "I") (by decide +kernel)) (fun _ h9 => h9) rfl (by decide +kernel) rfl rfl (Nat.le_of_ble_eq_true rfl) rfl dX7_disturb_120 (fun H locs hP hD hS => ?_)
                  have hst := zC.pf hM hst (k := 41) (by decide) (nI d8)
                  have kn77 := zpi_ff (zpi (zpi (zpi S mo 0 0) (ad 39) k9 v66) (ad 40) k9 v) mo 41 (nI d8) (i := 0) (by decide) kn71
                  have kn78 := zpi_f hM (zpi (zpi (zpi S mo 0 0) (ad 39) k9 v66) (ad 40) k9 v) (i := 39) (by decide) 41 (nI d8) kn72
                  have kn79 := zpi_f hM (zpi (zpi (zpi S mo 0 0) (ad 39) k9 v66) (ad 40) k9 v) (i := 40) (by decide) 41 (nI d8) kn73
                  have hI := hI.dist hM (q := d8) (by omega)
                  have kn80 := zpi_s (zpi (zpi (zpi S mo 0 0) (ad 39) k9 v66) (ad 40) k9 v) mo 41 (nI d8)
                  exact W.vret hx hb hr (fun t ht hW => ⟨⟨(zpi (zpi (zpi (zpi S mo 0 0) (ad 39) k9 v66) (ad 40) k9 v) mo 41 (nI d8)), rfl, ⟨⟨hst, hI⟩, trivial⟩, by rw [ht]; exact hP, va_K.moved hW.alike hK, hD⟩, hS.F ht⟩) hS.2.2 dX7_disturb_123
                · skip
                  have hkd : k9 = d8 := (nI_eq (by omega) (by omega)).mp c75
                  refine lv_aload_n hx hb dX7_disturb_107 rfl (lv_at hl 0 rfl) ?_
                  refine zget (ci := 7) (C := RX7) (T := TX7) (N := 42) hx hb hts hi7 hown hK hP hM.1 rfl rfl 41 (by decide) (hts (.fieldLink RX7 137 "LinClusterModel" "disturbed" "I") (by decide +kernel)) (fun _ h9 => h9) rfl dX7_disturb_108 ?_
                  refine lv_topi (fun v81 ev81 => ?_)
                  obtain rfl : v81 = (nI d8) := ev81.trans kn70
                  refine lv_iconst (v := 1) hx hb dX7_disturb_111 (by decide) ?_
                  refine lv_iadd hx hb dX7_disturb_112 ?_
                  refine lv_topi (fun v82 ev82 => ?_)
                  obtain rfl : v82 = nI (d8 + 1) := ev82.trans (nI_add d8 1)
                  refine lv_goto (tgt := 120) hx hb dX7_disturb_113 (by decide) ?_
                  refine zputi (ci := 7) (v := (nI (d8 + 1))) (ty := .int) (C := RX7) (T := TX7) (N := 42) hx hb hts hi7 tyX7 tyX7_ok nmX7 hown hK hP hD hS hM.1 rfl rfl 41 (by decide) (hts (.fieldLink RX7 137 "LinClusterModel" "disturbed" "I") (by decide +kernel)) (fun _ h9 => h9) rfl (by decide +kernel) rfl rfl (Nat.le_of_ble_eq_true rfl) rfl dX7_disturb_120 (fun H locs hP hD hS => ?_)
                  have hst := zC.pf hM hst (k := 41) (by decide) (nI (d8 + 1))
                  have kn83 := zpi_ff (zpi (zpi (zpi S mo 0 0) (ad 39) k9 v66) (ad 40) k9 v) mo 41 (nI (d8 + 1)) (i := 0) (by decide) kn71
                  have kn84 := zpi_f hM (zpi (zpi (zpi S mo 0 0) (ad 39) k9 v66) (ad 40) k9 v) (i := 39) (by decide) 41 (nI (d8 + 1)) kn72
                  have kn85 := zpi_f hM (zpi (zpi (zpi S mo 0 0) (ad 39) k9 v66) (ad 40) k9 v) (i := 40) (by decide) 41 (nI (d8 + 1)) kn73
                  have hI := hI.dist hM (q := (d8 + 1)) (by omega)
                  have kn86 := zpi_s (zpi (zpi (zpi S mo 0 0) (ad 39) k9 v66) (ad 40) k9 v) mo 41 (nI (d8 + 1))
                  exact W.vret hx hb hr (fun t ht hW => ⟨⟨(zpi (zpi (zpi (zpi S mo 0 0) (ad 39) k9 v66) (ad 40) k9 v) mo 41 (nI (d8 + 1))), rfl, ⟨⟨hst, hI⟩, trivial⟩, by rw [ht]; exact hP, va_K.moved hW.alike hK, hD⟩, hS.F ht⟩) hS.2.2 dX7_disturb_123
              · exact absurd c64 (by decide)
            · skip
              refine lv_iconst (v := 2) hx hb dX7_disturb_63 (by decide) ?_
              refine lv_goto (tgt := 68) hx hb dX7_disturb_64 (by decide) ?_
              refine zputi (ci := 7) (v := 2) (ty := .int) (C := RX7) (T := TX7) (N := 42) hx hb hts hi7 tyX7 tyX7_ok nmX7 hown hK hP hD hS hM.1 rfl rfl 0 (by decide) (hts (.fieldLink RX7 117 "LinClusterModel" "thrown" "I") (by decide +kernel)) (fun _ h9 => h9) rfl (by decide +kernel) rfl rfl (Nat.le_of_ble_eq_true rfl) rfl dX7_disturb_68 (fun H locs hP hD hS => ?_)
              have hst := zC.pf hM hst (k := 0) (by decide) 2
              have kn87 := zpi_ff S mo 0 2 (i := 41) (by decide) ed8
              have hI := hI.ffree hM (k := 0) (by decide) 2
              have kn88 := zpi_s S mo 0 2
              refine lv_aload_n hx hb dX7_disturb_71 rfl (lv_at hl 0 rfl) ?_
              refine zget (ci := 7) (C := RX7) (T := TX7) (N := 42) hx hb hts hi7 hown hK hP hM.1 rfl rfl 0 (by decide) (hts (.fieldLink RX7 117 "LinClusterModel" "thrown" "I") (by decide +kernel)) (fun _ h9 => h9) rfl dX7_disturb_72 ?_
              refine lv_topi (fun v89 ev89 => ?_)
              obtain rfl : v89 = 2 := ev89.trans kn88
              refine lv_if_le (tgt := 79) hx hb dX7_disturb_75 (by decide) (fun c90 => ?_) (fun c90 => ?_)
              · exact absurd c90 (by decide)
              · skip
                exact W.vret hx hb hr (fun t ht hW => ⟨⟨(zpi S mo 0 2), rfl, ⟨⟨hst, hI⟩, trivial⟩, by rw [ht]; exact hP, va_K.moved hW.alike hK, hD⟩, hS.F ht⟩) hS.2.2 dX7_disturb_78
          · skip
            refine lv_iconst (v := 1) hx hb dX7_disturb_52 (by decide) ?_
            refine lv_goto (tgt := 68) hx hb dX7_disturb_53 (by decide) ?_
            refine zputi (ci := 7) (v := 1) (ty := .int) (C := RX7) (T := TX7) (N := 42) hx hb hts hi7 tyX7 tyX7_ok nmX7 hown hK hP hD hS hM.1 rfl rfl 0 (by decide) (hts (.fieldLink RX7 117 "LinClusterModel" "thrown" "I") (by decide +kernel)) (fun _ h9 => h9) rfl (by decide +kernel) rfl rfl (Nat.le_of_ble_eq_true rfl) rfl dX7_disturb_68 (fun H locs hP hD hS => ?_)
            have hst := zC.pf hM hst (k := 0) (by decide) 1
            have kn91 := zpi_ff S mo 0 1 (i := 41) (by decide) ed8
            have hI := hI.ffree hM (k := 0) (by decide) 1
            have kn92 := zpi_s S mo 0 1
            refine lv_aload_n hx hb dX7_disturb_71 rfl (lv_at hl 0 rfl) ?_
            refine zget (ci := 7) (C := RX7) (T := TX7) (N := 42) hx hb hts hi7 hown hK hP hM.1 rfl rfl 0 (by decide) (hts (.fieldLink RX7 117 "LinClusterModel" "thrown" "I") (by decide +kernel)) (fun _ h9 => h9) rfl dX7_disturb_72 ?_
            refine lv_topi (fun v93 ev93 => ?_)
            obtain rfl : v93 = 1 := ev93.trans kn92
            refine lv_if_le (tgt := 79) hx hb dX7_disturb_75 (by decide) (fun c94 => ?_) (fun c94 => ?_)
            · exact absurd c94 (by decide)
            · skip
              exact W.vret hx hb hr (fun t ht hW => ⟨⟨(zpi S mo 0 1), rfl, ⟨⟨hst, hI⟩, trivial⟩, by rw [ht]; exact hP, va_K.moved hW.alike hK, hD⟩, hS.F ht⟩) hS.2.2 dX7_disturb_78
      · skip
        obtain ⟨v95, ev95⟩ : ∃ y : Int32, y = (nI k9) + 1 := ⟨_, rfl⟩
        refine lv_iinc (v := v95) (lv' := [(3, .int v95), (0, .ref mo), (1, .int b), (2, .int v)]) hx hb dX7_disturb_25 hl (k := 3) rfl (by rw [ev95]; rfl) (by decide) rfl (fun ls hl => ?_)
        refine lv_goto (tgt := 2) hx hb dX7_disturb_28 (by decide) ?_
        have e9 : v95 = nI (k9 + 1) := by rw [ev95]; exact nI_1 k9
        rw [e9] at hl
        exact ih () ls (lv_sub hl [1, 2, 3, 0] rfl)
set_option maxHeartbeats 4000000 in
set_option maxRecDepth 100000 in
theorem c_X7_listen (l : Launch) (dC : Nat → ClassId) (dI : Nat → Nat → Nat) (cy : Nat → ClassId) (G : zG) (S : zS) (sz : Nat) (mo : Nat) (ad : Nat → Nat) (v id b : Int32) (hM : zM G S mo ad) (hI : zI mo ad S) (hz0 : zZr (S.1 (ad 6))) : Met l yX7_listen wsX7_listen ({ frames := 2, cells := 0, slots := 0, locals := 43 }) (zP dC dI cy [.ref mo, .int v, .int id, .int b] G S sz) (va_Qi (fun (r : Int32) S' => (zC mo ad [6, 7, 8] [0] S S' ∧ zI mo ad S') ∧ zZr (S'.1 (ad 6))) (zB dC dI cy (zA cy G S sz) G) (zA cy G S sz)) 0 0 (zA cy G S sz) := by
  refine Met.ofW (cc := cX7_listen) (maxL := 7) (ret := (some .boolean)) (by decide) rfl ?_
  intro p e s m args below meth c s₁ B hml hv
  obtain ⟨rfl, hsz, hP, hK, hD0, hN⟩ := hv
  have hx := B.exec
  have hb := B.bytes
  have hr := B.returns
  have hts := atoms_spec (ws := wsX7_listen) B.pre
  have hown : s.vm.findClass RX7 = some m.cls := findClass_of_methodNamed B.named
  have hlocks := B.notSynchronized
  subst hsz
  have hD : va_D (zA cy G S s.heap.size) (zW cy G S) := hD0.self
  generalize hAe : zA cy G S s.heap.size = A at hD ⊢
  have hA : ∀ q : Nat, s.heap.size ≤ q → A q := fun q h => by rw [← hAe]; exact Or.inr h
  have hS : va_S A s.heap s.heap [] := va_S.rf
  have hst := zC.refl mo ad [6, 7, 8] [0] S
  have hl := lv_entry ([.ref mo, .int v, .int id, .int b]) (n := 7) (Nat.le_of_ble_eq_true rfl)
  rw [lg_entry_eq]
  generalize (lg_sl ([.ref mo, .int v, .int id, .int b]) ++ List.replicate (7 - (lg_sl ([.ref mo, .int v, .int id, .int b])).length) Slot.unset).toArray = ls at hl ⊢
  have hl : lv_has ls 7 [(0, .ref mo), (1, .int v), (2, .int id), (3, .int b)] := hl
  have hi7 : ∀ w ∈ wsX70, w ∈ wsX7_listen := by decide +kernel
  refine lv_aload_n hx hb dX7_listen_0 rfl (lv_at hl 0 rfl) ?_
  refine lv_iload_n hx hb dX7_listen_1 rfl (lv_at hl 1 rfl) ?_
  refine vp_callSi (va_Run.run (va_runS (As := [.int v]) (rest := [.ref mo]) ⟨hx, hb, hml, hown, hts⟩ (c_X7_isNode l v) (va_cwS 1 hts gX7_listen_X7_isNode rfl rfl rfl (by decide +kernel) ⟨Nat.le_of_ble_eq_true rfl, Nat.le_of_ble_eq_true rfl⟩) zpreS0 rfl rfl hl.1 rfl (lv_room (Nat.le_of_ble_eq_true rfl)) dX7_listen_2 ⟨Nat.le_of_ble_eq_true rfl, Nat.le_of_ble_eq_true rfl⟩)) (fun r1 hr1 => ?_)
  refine lv_if_eq (tgt := 26) hx hb dX7_listen_5 (by decide) (fun c2 => ?_) (fun c2 => ?_)
  · skip
    refine lv_iconst (v := 1) hx hb dX7_listen_26 (by decide) ?_
    refine lv_goto (tgt := 31) hx hb dX7_listen_27 (by decide) ?_
    refine zputi (ci := 7) (v := 1) (ty := .int) (C := RX7) (T := TX7) (N := 42) hx hb hts hi7 tyX7 tyX7_ok nmX7 hown hK hP hD hS hM.1 rfl rfl 0 (by decide) (hts (.fieldLink RX7 117 "LinClusterModel" "thrown" "I") (by decide +kernel)) (fun _ h9 => h9) rfl (by decide +kernel) rfl rfl (Nat.le_of_ble_eq_true rfl) rfl dX7_listen_31 (fun H locs hP hD hS => ?_)
    have hz3 : zZr ((zpi S mo 0 1).1 (ad 6)) := by rw [zpi_off S (hM.mo (i := 6) (by decide))]; exact hz0
    have hst := zC.pf hM hst (k := 0) (by decide) 1
    have hI := hI.ffree hM (k := 0) (by decide) 1
    have kn4 := zpi_s S mo 0 1
    refine lv_aload_n hx hb dX7_listen_34 rfl (lv_at hl 0 rfl) ?_
    refine zget (ci := 7) (C := RX7) (T := TX7) (N := 42) hx hb hts hi7 hown hK hP hM.1 rfl rfl 0 (by decide) (hts (.fieldLink RX7 117 "LinClusterModel" "thrown" "I") (by decide +kernel)) (fun _ h9 => h9) rfl dX7_listen_35 ?_
    refine lv_topi (fun v5 ev5 => ?_)
    obtain rfl : v5 = 1 := ev5.trans kn4
    refine lv_if_le (tgt := 43) hx hb dX7_listen_38 (by decide) (fun c6 => ?_) (fun c6 => ?_)
    · exact absurd c6 (by decide)
    · skip
      refine lv_iconst (v := 0) hx hb dX7_listen_41 (by decide) ?_
      exact W.zret (v := 0) (ty := .boolean) hx hb hr rfl (fun t ht hW => ⟨⟨0, (zpi S mo 0 1), rfl, ⟨⟨hst, hI⟩, hz3⟩, by rw [ht]; exact hP, va_K.moved hW.alike hK, hD⟩, hS.F ht⟩) hS.2.2 dX7_listen_42
  · skip
    obtain ⟨j8, hj8, rfl⟩ := zin7n hr1 c2
    refine lv_aload_n hx hb dX7_listen_8 rfl (lv_at hl 0 rfl) ?_
    refine lv_iload_n hx hb dX7_listen_9 rfl (lv_at hl 2 rfl) ?_
    refine vp_callSi (va_Run.run (va_runV (As := [.int id]) (rest := [.ref mo]) ⟨hx, hb, hml, hown, hts⟩ (c_X7_isFrame l dC dI cy G S s.heap.size mo ad id (hM.eq hst.1)) (cwV 1 hts gX7_listen_X7_isFrame rfl rfl rfl (by decide +kernel) ⟨Nat.le_of_ble_eq_true rfl, Nat.le_of_ble_eq_true rfl⟩) (zpreV hK hP hD hN (zrecv7 hK hP hM.1)) rfl rfl hl.1 rfl (lv_room (Nat.le_of_ble_eq_true rfl)) dX7_listen_10 ⟨Nat.le_of_ble_eq_true rfl, Nat.le_of_ble_eq_true rfl⟩)) (fun r7 hr7 => ?_)
    refine lv_if_eq (tgt := 26) hx hb dX7_listen_13 (by decide) (fun c8 => ?_) (fun c8 => ?_)
    · skip
      refine lv_iconst (v := 1) hx hb dX7_listen_26 (by decide) ?_
      refine lv_goto (tgt := 31) hx hb dX7_listen_27 (by decide) ?_
      refine zputi (ci := 7) (v := 1) (ty := .int) (C := RX7) (T := TX7) (N := 42) hx hb hts hi7 tyX7 tyX7_ok nmX7 hown hK hP hD hS hM.1 rfl rfl 0 (by decide) (hts (.fieldLink RX7 117 "LinClusterModel" "thrown" "I") (by decide +kernel)) (fun _ h9 => h9) rfl (by decide +kernel) rfl rfl (Nat.le_of_ble_eq_true rfl) rfl dX7_listen_31 (fun H locs hP hD hS => ?_)
      have hz9 : zZr ((zpi S mo 0 1).1 (ad 6)) := by rw [zpi_off S (hM.mo (i := 6) (by decide))]; exact hz0
      have hst := zC.pf hM hst (k := 0) (by decide) 1
      have hI := hI.ffree hM (k := 0) (by decide) 1
      have kn10 := zpi_s S mo 0 1
      refine lv_aload_n hx hb dX7_listen_34 rfl (lv_at hl 0 rfl) ?_
      refine zget (ci := 7) (C := RX7) (T := TX7) (N := 42) hx hb hts hi7 hown hK hP hM.1 rfl rfl 0 (by decide) (hts (.fieldLink RX7 117 "LinClusterModel" "thrown" "I") (by decide +kernel)) (fun _ h9 => h9) rfl dX7_listen_35 ?_
      refine lv_topi (fun v11 ev11 => ?_)
      obtain rfl : v11 = 1 := ev11.trans kn10
      refine lv_if_le (tgt := 43) hx hb dX7_listen_38 (by decide) (fun c12 => ?_) (fun c12 => ?_)
      · exact absurd c12 (by decide)
      · skip
        refine lv_iconst (v := 0) hx hb dX7_listen_41 (by decide) ?_
        exact W.zret (v := 0) (ty := .boolean) hx hb hr rfl (fun t ht hW => ⟨⟨0, (zpi S mo 0 1), rfl, ⟨⟨hst, hI⟩, hz9⟩, by rw [ht]; exact hP, va_K.moved hW.alike hK, hD⟩, hS.F ht⟩) hS.2.2 dX7_listen_42
    · skip
      obtain ⟨i8, hi8, rfl, hth8⟩ := zfr1 hr7 c8
      refine lv_aload_n hx hb dX7_listen_16 rfl (lv_at hl 0 rfl) ?_
      refine zget (ci := 7) (C := RX7) (T := TX7) (N := 42) hx hb hts hi7 hown hK hP hM.1 rfl rfl 3 (by decide) (hts (.fieldLink RX7 17 "LinClusterModel" "publishers" "[I") (by decide +kernel)) (fun _ h9 => h9) (v := .ref (ad 3)) (congrArg (fun z => some (va_rf z)) (((hM.eq hst.1).2.1 3 (by decide)).1)) dX7_listen_17 ?_
      refine lv_iload_n hx hb dX7_listen_20 rfl (lv_at hl 2 rfl) ?_
      refine ziald hx hb hK hP (hM.2.1 3 (by decide)).2.1 (show G.2.2 (ad 3) = 62 from (hM.2.1 3 (by decide)).2.2) (vp_in_nI (n := i8) (N := 62) (by omega) (by omega)) dX7_listen_21 ?_
      refine lv_topi (fun v13 ev13 => ?_)
      rw [(nI_clamp (n := i8) (by omega))] at ev13
      refine lv_iload_n hx hb dX7_listen_22 rfl (lv_at hl 1 rfl) ?_
      refine lv_icmp_ne (tgt := 30) hx hb dX7_listen_23 (by decide) (fun c14 => ?_) (fun c14 => ?_)
      · skip
        refine lv_iconst (v := 0) hx hb dX7_listen_30 (by decide) ?_
        refine zputi (ci := 7) (v := 0) (ty := .int) (C := RX7) (T := TX7) (N := 42) hx hb hts hi7 tyX7 tyX7_ok nmX7 hown hK hP hD hS hM.1 rfl rfl 0 (by decide) (hts (.fieldLink RX7 117 "LinClusterModel" "thrown" "I") (by decide +kernel)) (fun _ h9 => h9) rfl (by decide +kernel) rfl rfl (Nat.le_of_ble_eq_true rfl) rfl dX7_listen_31 (fun H locs hP hD hS => ?_)
        have hz15 : zZr ((zpi S mo 0 0).1 (ad 6)) := by rw [zpi_off S (hM.mo (i := 6) (by decide))]; exact hz0
        have hst := zC.pf hM hst (k := 0) (by decide) 0
        have hI := hI.ffree hM (k := 0) (by decide) 0
        have kn16 := zpi_s S mo 0 0
        refine lv_aload_n hx hb dX7_listen_34 rfl (lv_at hl 0 rfl) ?_
        refine zget (ci := 7) (C := RX7) (T := TX7) (N := 42) hx hb hts hi7 hown hK hP hM.1 rfl rfl 0 (by decide) (hts (.fieldLink RX7 117 "LinClusterModel" "thrown" "I") (by decide +kernel)) (fun _ h9 => h9) rfl dX7_listen_35 ?_
        refine lv_topi (fun v17 ev17 => ?_)
        obtain rfl : v17 = 0 := ev17.trans kn16
        refine lv_if_le (tgt := 43) hx hb dX7_listen_38 (by decide) (fun c18 => ?_) (fun c18 => ?_)
        · skip
          refine lv_bipush (v := 62) hx hb dX7_listen_43 (by decide) ?_
          refine lv_iload_n hx hb dX7_listen_45 rfl (lv_at hl 1 rfl) ?_
          refine lv_imul hx hb dX7_listen_46 ?_
          refine lv_topi (fun v19 ev19 => ?_)
          obtain rfl : v19 = nI (62 * j8) := ev19.trans (pk_mul 62 j8)
          refine lv_iload_n hx hb dX7_listen_47 rfl (lv_at hl 2 rfl) ?_
          refine lv_iadd hx hb dX7_listen_48 ?_
          refine lv_topi (fun v20 ev20 => ?_)
          obtain rfl : v20 = nI ((62 * j8) + i8) := ev20.trans (nI_add (62 * j8) i8)
          refine lv_istore (lv' := [(4, .int (nI ((62 * j8) + i8))), (0, .ref mo), (1, .int (nI j8)), (2, .int (nI i8)), (3, .int b)]) hx hb dX7_listen_49 hl (by decide) rfl (fun ls hl => ?_)
          refine lv_aload_n hx hb dX7_listen_51 rfl (lv_at hl 1 rfl) ?_
          refine zget (ci := 7) (C := RX7) (T := TX7) (N := 42) hx hb hts hi7 hown hK hP hM.1 rfl rfl 6 (by decide) (hts (.fieldLink RX7 26 "LinClusterModel" "listens" "[Z") (by decide +kernel)) (fun _ h9 => h9) (v := .ref (ad 6)) (congrArg (fun z => some (va_rf z)) (((hM.eq hst.1).2.1 6 (by decide)).1)) dX7_listen_52 ?_
          refine lv_iload hx hb dX7_listen_55 (lv_at hl 0 rfl) ?_
          refine zzald hx hb hK hP (hM.2.1 6 (by decide)).2.1 (show G.2.2 (ad 6) = 496 from (hM.2.1 6 (by decide)).2.2) (vp_in_nI (n := ((62 * j8) + i8)) (N := 496) (by omega) (by omega)) dX7_listen_57 ?_
          refine lv_topi (fun v21 ev21 => ?_)
          rw [(nI_clamp (n := ((62 * j8) + i8)) (by omega))] at ev21
          have hbz : narrow .boolean (.int v21) = .int v21 := by rw [ev21]; exact hz15 _
          refine lv_istore (lv' := [(5, .int v21), (4, .int (nI ((62 * j8) + i8))), (0, .ref mo), (1, .int (nI j8)), (2, .int (nI i8)), (3, .int b)]) hx hb dX7_listen_58 hl (by decide) rfl (fun ls hl => ?_)
          refine lv_aload_n hx hb dX7_listen_60 rfl (lv_at hl 2 rfl) ?_
          refine zget (ci := 7) (C := RX7) (T := TX7) (N := 42) hx hb hts hi7 hown hK hP hM.1 rfl rfl 6 (by decide) (hts (.fieldLink RX7 26 "LinClusterModel" "listens" "[Z") (by decide +kernel)) (fun _ h9 => h9) (v := .ref (ad 6)) (congrArg (fun z => some (va_rf z)) (((hM.eq hst.1).2.1 6 (by decide)).1)) dX7_listen_61 ?_
          refine lv_iload hx hb dX7_listen_64 (lv_at hl 1 rfl) ?_
          refine lv_iload_n hx hb dX7_listen_66 rfl (lv_at hl 5 rfl) ?_
          refine zzast (x := b) hx hb hK hP hD hS (hM.2.1 6 (by decide)).2.1 (show G.2.2 (ad 6) = 496 from (hM.2.1 6 (by decide)).2.2) (vp_in_nI (n := ((62 * j8) + i8)) (N := 496) (by omega) (by omega)) dX7_listen_67 (fun H locs hP hD hS => ?_)
          have hz22 : zZr ((zpi (zpi S mo 0 0) (ad 6) ((62 * j8) + i8) (vp_nar .boolean b)).1 (ad 6)) := by rw [zpi_row]; exact hz15.up _ _
          rw [(nI_clamp (n := ((62 * j8) + i8)) (by omega))] at hP hD
          have hst := zC.pa hM hst (k := 6) (by decide) (by decide) ((62 * j8) + i8) (vp_nar .boolean b)
          have kn23 := zpi_af hM (zpi S mo 0 0) (k := 6) (by decide) ((62 * j8) + i8) (vp_nar .boolean b) (i := 0) kn16
          have hI := hI.free hM (k := 6) (by decide) (by decide) ((62 * j8) + i8) (vp_nar .boolean b)
          have kn24 := zpi_s (zpi S mo 0 0) (ad 6) ((62 * j8) + i8) (vp_nar .boolean b)
          refine lv_iload_n hx hb dX7_listen_68 rfl (lv_at hl 5 rfl) ?_
          refine lv_if_eq (tgt := 115) hx hb dX7_listen_69 (by decide) (fun c25 => ?_) (fun c25 => ?_)
          · skip
            refine lv_iload hx hb dX7_listen_115 (lv_at hl 0 rfl) ?_
            exact W.zret (v := v21) (ty := .boolean) hx hb hr hbz (fun t ht hW => ⟨⟨v21, (zpi (zpi S mo 0 0) (ad 6) ((62 * j8) + i8) (vp_nar .boolean b)), rfl, ⟨⟨hst, hI⟩, hz22⟩, by rw [ht]; exact hP, va_K.moved hW.alike hK, hD⟩, hS.F ht⟩) hS.2.2 dX7_listen_117
          · skip
            refine lv_iload hx hb dX7_listen_72 (lv_at hl 0 rfl) ?_
            refine lv_if_ne (tgt := 115) hx hb dX7_listen_74 (by decide) (fun c26 => ?_) (fun c26 => ?_)
            · skip
              refine lv_iload hx hb dX7_listen_115 (lv_at hl 0 rfl) ?_
              exact W.zret (v := v21) (ty := .boolean) hx hb hr hbz (fun t ht hW => ⟨⟨v21, (zpi (zpi S mo 0 0) (ad 6) ((62 * j8) + i8) (vp_nar .boolean b)), rfl, ⟨⟨hst, hI⟩, hz22⟩, by rw [ht]; exact hP, va_K.moved hW.alike hK, hD⟩, hS.F ht⟩) hS.2.2 dX7_listen_117
            · skip
              refine lv_aload_n hx hb dX7_listen_77 rfl (lv_at hl 2 rfl) ?_
              refine zget (ci := 7) (C := RX7) (T := TX7) (N := 42) hx hb hts hi7 hown hK hP hM.1 rfl rfl 7 (by decide) (hts (.fieldLink RX7 29 "LinClusterModel" "takings" "[I") (by decide +kernel)) (fun _ h9 => h9) (v := .ref (ad 7)) (congrArg (fun z => some (va_rf z)) (((hM.eq hst.1).2.1 7 (by decide)).1)) dX7_listen_78 ?_
              refine lv_iload hx hb dX7_listen_81 (lv_at hl 1 rfl) ?_
              refine lv_iconst (v := 0) hx hb dX7_listen_83 (by decide) ?_
              refine ziast (x := 0) hx hb hK hP hD hS (hM.2.1 7 (by decide)).2.1 (show G.2.2 (ad 7) = 496 from (hM.2.1 7 (by decide)).2.2) (vp_in_nI (n := ((62 * j8) + i8)) (N := 496) (by omega) (by omega)) dX7_listen_84 (fun H locs hP hD hS => ?_)
              have hz27 : zZr ((zpi (zpi (zpi S mo 0 0) (ad 6) ((62 * j8) + i8) (vp_nar .boolean b)) (ad 7) ((62 * j8) + i8) 0).1 (ad 6)) := by rw [zpi_off (zpi (zpi S mo 0 0) (ad 6) ((62 * j8) + i8) (vp_nar .boolean b)) (hM.ne (i := 6) (j := 7) (by decide) (by decide) (by decide))]; exact hz22
              rw [(nI_clamp (n := ((62 * j8) + i8)) (by omega))] at hP hD
              have hst := zC.pa hM hst (k := 7) (by decide) (by decide) ((62 * j8) + i8) 0
              have kn28 := zpi_af hM (zpi (zpi S mo 0 0) (ad 6) ((62 * j8) + i8) (vp_nar .boolean b)) (k := 7) (by decide) ((62 * j8) + i8) 0 (i := 0) kn23
              have kn29 := zpi_o hM (zpi (zpi S mo 0 0) (ad 6) ((62 * j8) + i8) (vp_nar .boolean b)) (i := 6) (k := 7) (by decide) (by decide) (by decide) ((62 * j8) + i8) 0 kn24
              have hI := hI.free hM (k := 7) (by decide) (by decide) ((62 * j8) + i8) 0
              have kn30 := zpi_s (zpi (zpi S mo 0 0) (ad 6) ((62 * j8) + i8) (vp_nar .boolean b)) (ad 7) ((62 * j8) + i8) 0
              refine lv_iconst (v := 0) hx hb dX7_listen_85 (by decide) ?_
              refine lv_istore (lv' := [(6, .int 0), (5, .int v21), (4, .int (nI ((62 * j8) + i8))), (0, .ref mo), (1, .int (nI j8)), (2, .int (nI i8)), (3, .int b)]) hx hb dX7_listen_86 hl (by decide) rfl (fun ls hl => ?_)
              refine zloopW 8 (fun k9 (_ : Unit) => [(0, .ref mo), (1, .int (nI j8)), (2, .int (nI i8)), (3, .int b), (4, .int (nI ((62 * j8) + i8))), (5, .int v21), (6, .int (nI k9))]) (fun _ S' => zC mo ad [6, 7, 8] [0] S S' ∧ zI mo ad S' ∧ S'.1 mo 0 = 0 ∧ zZr (S'.1 (ad 6))) ?_ ?_ 8 0 () (zpi (zpi (zpi S mo 0 0) (ad 6) ((62 * j8) + i8) (vp_nar .boolean b)) (ad 7) ((62 * j8) + i8) 0) H locs ls rfl ⟨hst, hI, kn28, hz27⟩ hP hD hS (lv_sub hl [3, 4, 5, 6, 2, 1, 0] rfl)
              · intro x9 S9 H locs ls hJ9 hP hD hS hl
                obtain ⟨hst, hI, k09, hz09⟩ := hJ9
                have hl : lv_has ls 7 [(0, .ref mo), (1, .int (nI j8)), (2, .int (nI i8)), (3, .int b), (4, .int (nI ((62 * j8) + i8))), (5, .int v21), (6, .int (nI 8))] := hl
                refine lv_iload hx hb dX7_listen_88 (lv_at hl 6 rfl) ?_
                refine lv_bipush (v := 8) hx hb dX7_listen_90 (by decide) ?_
                refine lv_icmp_ge (tgt := 115) hx hb dX7_listen_92 (by decide) (fun c31 => ?_) (fun c31 => ?_)
                · skip
                  refine lv_iload hx hb dX7_listen_115 (lv_at hl 5 rfl) ?_
                  exact W.zret (v := v21) (ty := .boolean) hx hb hr hbz (fun t ht hW => ⟨⟨v21, S9, rfl, ⟨⟨hst, hI⟩, hz09⟩, by rw [ht]; exact hP, va_K.moved hW.alike hK, hD⟩, hS.F ht⟩) hS.2.2 dX7_listen_117
                · exact absurd (nI_le (a := 8) (b := 8) (Nat.le_refl _) (by omega)) c31
              · intro n8 k9 x9 S9 H locs ls hk9 ih hJ9 hP hD hS hl
                obtain ⟨hst, hI, k09, hz09⟩ := hJ9
                have hl : lv_has ls 7 [(0, .ref mo), (1, .int (nI j8)), (2, .int (nI i8)), (3, .int b), (4, .int (nI ((62 * j8) + i8))), (5, .int v21), (6, .int (nI k9))] := hl
                refine lv_iload hx hb dX7_listen_88 (lv_at hl 6 rfl) ?_
                refine lv_bipush (v := 8) hx hb dX7_listen_90 (by decide) ?_
                refine lv_icmp_ge (tgt := 115) hx hb dX7_listen_92 (by decide) (fun c32 => ?_) (fun c32 => ?_)
                · exact absurd c32 (nI_ge (a := k9) (b := 8) (by omega) (by omega))
                · skip
                  refine lv_aload_n hx hb dX7_listen_95 rfl (lv_at hl 0 rfl) ?_
                  refine zget (ci := 7) (C := RX7) (T := TX7) (N := 42) hx hb hts hi7 hown hK hP hM.1 rfl rfl 8 (by decide) (hts (.fieldLink RX7 32 "LinClusterModel" "kept" "[I") (by decide +kernel)) (fun _ h9 => h9) (v := .ref (ad 8)) (congrArg (fun z => some (va_rf z)) (((hM.eq hst.1).2.1 8 (by decide)).1)) dX7_listen_96 ?_
                  refine lv_bipush (v := 8) hx hb dX7_listen_99 (by decide) ?_
                  refine lv_iload hx hb dX7_listen_101 (lv_at hl 4 rfl) ?_
                  refine lv_imul hx hb dX7_listen_103 ?_
                  refine lv_topi (fun v33 ev33 => ?_)
                  obtain rfl : v33 = nI (8 * ((62 * j8) + i8)) := ev33.trans (pk_mul 8 ((62 * j8) + i8))
                  refine lv_iload hx hb dX7_listen_104 (lv_at hl 6 rfl) ?_
                  refine lv_iadd hx hb dX7_listen_106 ?_
                  refine lv_topi (fun v34 ev34 => ?_)
                  obtain rfl : v34 = nI ((8 * ((62 * j8) + i8)) + k9) := ev34.trans (nI_add (8 * ((62 * j8) + i8)) k9)
                  refine lv_iconst (v := 0) hx hb dX7_listen_107 (by decide) ?_
                  refine ziast (x := 0) hx hb hK hP hD hS (hM.2.1 8 (by decide)).2.1 (show G.2.2 (ad 8) = 3968 from (hM.2.1 8 (by decide)).2.2) (vp_in_nI (n := ((8 * ((62 * j8) + i8)) + k9)) (N := 3968) (by omega) (by omega)) dX7_listen_108 (fun H locs hP hD hS => ?_)
                  have hz35 : zZr ((zpi S9 (ad 8) ((8 * ((62 * j8) + i8)) + k9) 0).1 (ad 6)) := by rw [zpi_off S9 (hM.ne (i := 6) (j := 8) (by decide) (by decide) (by decide))]; exact hz09
                  rw [(nI_clamp (n := ((8 * ((62 * j8) + i8)) + k9)) (by omega))] at hP hD
                  have hst := zC.pa hM hst (k := 8) (by decide) (by decide) ((8 * ((62 * j8) + i8)) + k9) 0
                  have kn36 := zpi_af hM S9 (k := 8) (by decide) ((8 * ((62 * j8) + i8)) + k9) 0 (i := 0) k09
                  have hI := hI.free hM (k := 8) (by decide) (by decide) ((8 * ((62 * j8) + i8)) + k9) 0
                  have kn37 := zpi_s S9 (ad 8) ((8 * ((62 * j8) + i8)) + k9) 0
                  obtain ⟨v38, ev38⟩ : ∃ y : Int32, y = (nI k9) + 1 := ⟨_, rfl⟩
                  refine lv_iinc (v := v38) (lv' := [(6, .int v38), (0, .ref mo), (1, .int (nI j8)), (2, .int (nI i8)), (3, .int b), (4, .int (nI ((62 * j8) + i8))), (5, .int v21)]) hx hb dX7_listen_109 hl (k := 6) rfl (by rw [ev38]; rfl) (by decide) rfl (fun ls hl => ?_)
                  refine lv_goto (tgt := 88) hx hb dX7_listen_112 (by decide) ?_
                  have e9 : v38 = nI (k9 + 1) := by rw [ev38]; exact nI_1 k9
                  rw [e9] at hl
                  exact ih () (zpi S9 (ad 8) ((8 * ((62 * j8) + i8)) + k9) 0) H locs ls ⟨hst, hI, kn36, hz35⟩ hP hD hS (lv_sub hl [1, 2, 3, 4, 5, 6, 0] rfl)
        · exact absurd c18 (by decide)
      · skip
        refine lv_iconst (v := 1) hx hb dX7_listen_26 (by decide) ?_
        refine lv_goto (tgt := 31) hx hb dX7_listen_27 (by decide) ?_
        refine zputi (ci := 7) (v := 1) (ty := .int) (C := RX7) (T := TX7) (N := 42) hx hb hts hi7 tyX7 tyX7_ok nmX7 hown hK hP hD hS hM.1 rfl rfl 0 (by decide) (hts (.fieldLink RX7 117 "LinClusterModel" "thrown" "I") (by decide +kernel)) (fun _ h9 => h9) rfl (by decide +kernel) rfl rfl (Nat.le_of_ble_eq_true rfl) rfl dX7_listen_31 (fun H locs hP hD hS => ?_)
        have hz39 : zZr ((zpi S mo 0 1).1 (ad 6)) := by rw [zpi_off S (hM.mo (i := 6) (by decide))]; exact hz0
        have hst := zC.pf hM hst (k := 0) (by decide) 1
        have hI := hI.ffree hM (k := 0) (by decide) 1
        have kn40 := zpi_s S mo 0 1
        refine lv_aload_n hx hb dX7_listen_34 rfl (lv_at hl 0 rfl) ?_
        refine zget (ci := 7) (C := RX7) (T := TX7) (N := 42) hx hb hts hi7 hown hK hP hM.1 rfl rfl 0 (by decide) (hts (.fieldLink RX7 117 "LinClusterModel" "thrown" "I") (by decide +kernel)) (fun _ h9 => h9) rfl dX7_listen_35 ?_
        refine lv_topi (fun v41 ev41 => ?_)
        obtain rfl : v41 = 1 := ev41.trans kn40
        refine lv_if_le (tgt := 43) hx hb dX7_listen_38 (by decide) (fun c42 => ?_) (fun c42 => ?_)
        · exact absurd c42 (by decide)
        · skip
          refine lv_iconst (v := 0) hx hb dX7_listen_41 (by decide) ?_
          exact W.zret (v := 0) (ty := .boolean) hx hb hr rfl (fun t ht hW => ⟨⟨0, (zpi S mo 0 1), rfl, ⟨⟨hst, hI⟩, hz39⟩, by rw [ht]; exact hP, va_K.moved hW.alike hK, hD⟩, hS.F ht⟩) hS.2.2 dX7_listen_42
