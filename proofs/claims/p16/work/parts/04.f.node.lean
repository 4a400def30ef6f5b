set_option maxHeartbeats 4000000 in
set_option maxRecDepth 100000 in
theorem c_X3_lookInHeader (l : Launch) (dC : Nat → ClassId) (dI : Nat → Nat → Nat) (cy : Nat → ClassId) (G : zG) (S : zS) (sz : Nat) (a i r f : Nat) (n : Int32) (hNd : zNd G S a i r) (hFa : zFa G S f) : Met l yX3_lookInHeader wsX3_lookInHeader ({ frames := 3, cells := 0, slots := 0, locals := 71 }) (zP dC dI cy [.ref a, .int n, .ref f] G S sz) (va_Qv (fun S' => zSt G S S') (zB dC dI cy (zA cy G S sz) G) (zA cy G S sz)) 0 0 (zA cy G S sz) := by
  refine Met.ofW (cc := cX3_lookInHeader) (maxL := 5) (ret := none) (by decide) rfl ?_
  intro p e s m args below meth c s₁ B hml hv
  obtain ⟨rfl, hsz, hP, hK, hD0, hN⟩ := hv
  have hx := B.exec
  have hb := B.bytes
  have hr := B.returns
  have hts := atoms_spec (ws := wsX3_lookInHeader) B.pre
  have hown : s.vm.findClass RX3 = some m.cls := findClass_of_methodNamed B.named
  have hlocks := B.notSynchronized
  subst hsz
  have hD : va_D (zA cy G S s.heap.size) (zW cy G S) := hD0.self
  generalize hAe : zA cy G S s.heap.size = A at hD ⊢
  have hA : ∀ q : Nat, s.heap.size ≤ q → A q := fun q h => by rw [← hAe]; exact Or.inr h
  have hS : va_S A s.heap s.heap [] := va_S.rf
  have hst := zSt.refl G S
  have hl := lv_entry ([.ref a, .int n, .ref f]) (n := 5) (Nat.le_of_ble_eq_true rfl)
  rw [lg_entry_eq]
  generalize (lg_sl ([.ref a, .int n, .ref f]) ++ List.replicate (5 - (lg_sl ([.ref a, .int n, .ref f])).length) Slot.unset).toArray = ls at hl ⊢
  have hl : lv_has ls 5 [(0, .ref a), (1, .int n), (2, .ref f)] := hl
  have hi3 : ∀ w ∈ wsX30, w ∈ wsX3_lookInHeader := by decide +kernel
  refine lv_aload_n hx hb dX3_lookInHeader_0 rfl (lv_at hl 0 rfl) ?_
  refine zget (ci := 3) (C := RX3) (T := TX3) (N := 15) hx hb hts hi3 hown hK hP hNd.1 rfl rfl 1 (by decide) (hts (.fieldLink RX3 12 "LinCluster$Node" "incoming" "LLinCluster$Incoming;") (by decide +kernel)) (fun _ h9 => h9) (v := .ref i) (congrArg (fun z => some (va_rf z)) ((hst.nd hNd).2.1)) dX3_lookInHeader_1 ?_
  refine lv_iload_n hx hb dX3_lookInHeader_4 rfl (lv_at hl 1 rfl) ?_
  refine zcalli (va_runV (As := [.int n]) (rest := []) ⟨hx, hb, hml, hown, hts⟩ (c_X2_add l dC dI cy G S s.heap.size i n hNd.2.2.2.1) (cwV 1 hts gX3_lookInHeader_X2_add rfl rfl rfl (by decide +kernel) ⟨Nat.le_of_ble_eq_true rfl, Nat.le_of_ble_eq_true rfl⟩) (zpreV hK hP hD hN (zrecv2 hK hP hNd.2.2.2.1)) rfl rfl hl.1 rfl (lv_room (Nat.le_of_ble_eq_true rfl)) dX3_lookInHeader_5 ⟨Nat.le_of_ble_eq_true rfl, Nat.le_of_ble_eq_true rfl⟩) hS hD hA (fun r1 S2 H locs hr1 hP hD hS => ?_)
  have hst := hst.trans hr1
  refine lv_istore_n (lv' := [(3, .int r1), (0, .ref a), (1, .int n), (2, .ref f)]) hx hb dX3_lookInHeader_8 rfl hl (by decide) rfl (fun ls hl => ?_)
  refine lv_iload_n hx hb dX3_lookInHeader_9 rfl (lv_at hl 0 rfl) ?_
  refine lv_iconst (v := (-1)) hx hb dX3_lookInHeader_10 (by decide) ?_
  refine lv_icmp_ne (tgt := 15) hx hb dX3_lookInHeader_11 (by decide) (fun c3 => ?_) (fun c3 => ?_)
  · skip
    refine lv_aload_n hx hb dX3_lookInHeader_15 rfl (lv_at hl 1 rfl) ?_
    refine zget (ci := 3) (C := RX3) (T := TX3) (N := 15) hx hb hts hi3 hown hK hP hNd.1 rfl rfl 7 (by decide) (hts (.fieldLink RX3 39 "LinCluster$Node" "synced" "Z") (by decide +kernel)) (fun _ h9 => h9) rfl dX3_lookInHeader_16 ?_
    refine lv_topi (fun v4 ev4 => ?_)
    refine lv_if_ne (tgt := 34) hx hb dX3_lookInHeader_19 (by decide) (fun c5 => ?_) (fun c5 => ?_)
    · skip
      refine lv_aload_n hx hb dX3_lookInHeader_34 rfl (lv_at hl 1 rfl) ?_
      refine zget (ci := 3) (C := RX3) (T := TX3) (N := 15) hx hb hts hi3 hown hK hP hNd.1 rfl rfl 7 (by decide) (hts (.fieldLink RX3 39 "LinCluster$Node" "synced" "Z") (by decide +kernel)) (fun _ h9 => h9) rfl dX3_lookInHeader_35 ?_
      refine lv_topi (fun v6 ev6 => ?_)
      refine lv_if_eq (tgt := 48) hx hb dX3_lookInHeader_38 (by decide) (fun c7 => ?_) (fun c7 => ?_)
      · skip
        refine lv_iconst (v := (-1)) hx hb dX3_lookInHeader_48 (by decide) ?_
        refine lv_istore (lv' := [(4, .int (-1)), (3, .int r1), (0, .ref a), (1, .int n), (2, .ref f)]) hx hb dX3_lookInHeader_49 hl (by decide) rfl (fun ls hl => ?_)
        refine lv_iload hx hb dX3_lookInHeader_51 (lv_at hl 0 rfl) ?_
        refine lv_if_lt (tgt := 63) hx hb dX3_lookInHeader_53 (by decide) (fun c8 => ?_) (fun c8 => ?_)
        · skip
          refine lv_aload_n hx hb dX3_lookInHeader_63 rfl (lv_at hl 2 rfl) ?_
          refine lv_dup hx hb dX3_lookInHeader_64 rfl ?_
          refine zget (ci := 3) (C := RX3) (T := TX3) (N := 15) hx hb hts hi3 hown hK hP hNd.1 rfl rfl 11 (by decide) (hts (.fieldLink RX3 52 "LinCluster$Node" "headersLost" "I") (by decide +kernel)) (fun _ h9 => h9) rfl dX3_lookInHeader_65 ?_
          refine lv_topi (fun v9 ev9 => ?_)
          refine lv_iconst (v := 1) hx hb dX3_lookInHeader_68 (by decide) ?_
          refine lv_iadd hx hb dX3_lookInHeader_69 ?_
          refine lv_topi (fun v10 ev10 => ?_)
          refine zputi (ci := 3) (v := v10) (ty := .int) (C := RX3) (T := TX3) (N := 15) hx hb hts hi3 tyX3 tyX3_ok nmX3 hown hK hP hD hS hNd.1 rfl rfl 11 (by decide) (hts (.fieldLink RX3 52 "LinCluster$Node" "headersLost" "I") (by decide +kernel)) (fun _ h9 => h9) rfl (by decide +kernel) rfl rfl (Nat.le_of_ble_eq_true rfl) rfl dX3_lookInHeader_70 (fun H locs hP hD hS => ?_)
          have hst := hst.pi (k := 11) (v := v10) hNd.1.2 rfl
          refine lv_aload_n hx hb dX3_lookInHeader_73 rfl (lv_at hl 2 rfl) ?_
          refine lv_iconst (v := 1) hx hb dX3_lookInHeader_74 (by decide) ?_
          refine zputi (ci := 3) (v := 1) (ty := .int) (C := RX3) (T := TX3) (N := 15) hx hb hts hi3 tyX3 tyX3_ok nmX3 hown hK hP hD hS hNd.1 rfl rfl 6 (by decide) (hts (.fieldLink RX3 36 "LinCluster$Node" "at" "I") (by decide +kernel)) (fun _ h9 => h9) rfl (by decide +kernel) rfl rfl (Nat.le_of_ble_eq_true rfl) rfl dX3_lookInHeader_75 (fun H locs hP hD hS => ?_)
          have hst := hst.pi (k := 6) (v := 1) hNd.1.2 rfl
          exact W.vret hx hb hr (fun t ht hW => ⟨⟨(zpi (zpi S2 a 11 v10) a 6 1), rfl, hst, by rw [ht]; exact hP, va_K.moved hW.alike hK, hD⟩, hS.F ht⟩) hS.2.2 dX3_lookInHeader_78
        · exact absurd c8 (by decide)
      · skip
        refine lv_iload_n hx hb dX3_lookInHeader_41 rfl (lv_at hl 0 rfl) ?_
        refine vp_callSi (va_Run.run (va_runSN (As := [.int r1]) (rest := []) ⟨hx, hb, hml, hown, hts⟩ (c_X6_idOf l r1) ⟨va_cnB 1 hts gX3_lookInHeader_X6_idOf_n106 rfl rfl rfl (zN_X3_106 hN) (hts (.initialized RX6) (by decide +kernel)) (by decide +kernel) ⟨Nat.le_of_ble_eq_true rfl, Nat.le_of_ble_eq_true rfl⟩, hts (.static yX6_idOf) (by decide +kernel), trivial⟩ zpreS0 rfl rfl hl.1 rfl (lv_room (Nat.le_of_ble_eq_true rfl)) dX3_lookInHeader_42 ⟨Nat.le_of_ble_eq_true rfl, Nat.le_of_ble_eq_true rfl⟩)) (fun r11 hr11 => ?_)
        refine lv_goto (tgt := 49) hx hb dX3_lookInHeader_45 (by decide) ?_
        refine lv_istore (lv' := [(4, .int r11), (3, .int r1), (0, .ref a), (1, .int n), (2, .ref f)]) hx hb dX3_lookInHeader_49 hl (by decide) rfl (fun ls hl => ?_)
        refine lv_iload hx hb dX3_lookInHeader_51 (lv_at hl 0 rfl) ?_
        refine lv_if_lt (tgt := 63) hx hb dX3_lookInHeader_53 (by decide) (fun c12 => ?_) (fun c12 => ?_)
        · skip
          refine lv_aload_n hx hb dX3_lookInHeader_63 rfl (lv_at hl 2 rfl) ?_
          refine lv_dup hx hb dX3_lookInHeader_64 rfl ?_
          refine zget (ci := 3) (C := RX3) (T := TX3) (N := 15) hx hb hts hi3 hown hK hP hNd.1 rfl rfl 11 (by decide) (hts (.fieldLink RX3 52 "LinCluster$Node" "headersLost" "I") (by decide +kernel)) (fun _ h9 => h9) rfl dX3_lookInHeader_65 ?_
          refine lv_topi (fun v13 ev13 => ?_)
          refine lv_iconst (v := 1) hx hb dX3_lookInHeader_68 (by decide) ?_
          refine lv_iadd hx hb dX3_lookInHeader_69 ?_
          refine lv_topi (fun v14 ev14 => ?_)
          refine zputi (ci := 3) (v := v14) (ty := .int) (C := RX3) (T := TX3) (N := 15) hx hb hts hi3 tyX3 tyX3_ok nmX3 hown hK hP hD hS hNd.1 rfl rfl 11 (by decide) (hts (.fieldLink RX3 52 "LinCluster$Node" "headersLost" "I") (by decide +kernel)) (fun _ h9 => h9) rfl (by decide +kernel) rfl rfl (Nat.le_of_ble_eq_true rfl) rfl dX3_lookInHeader_70 (fun H locs hP hD hS => ?_)
          have hst := hst.pi (k := 11) (v := v14) hNd.1.2 rfl
          refine lv_aload_n hx hb dX3_lookInHeader_73 rfl (lv_at hl 2 rfl) ?_
          refine lv_iconst (v := 1) hx hb dX3_lookInHeader_74 (by decide) ?_
          refine zputi (ci := 3) (v := 1) (ty := .int) (C := RX3) (T := TX3) (N := 15) hx hb hts hi3 tyX3 tyX3_ok nmX3 hown hK hP hD hS hNd.1 rfl rfl 6 (by decide) (hts (.fieldLink RX3 36 "LinCluster$Node" "at" "I") (by decide +kernel)) (fun _ h9 => h9) rfl (by decide +kernel) rfl rfl (Nat.le_of_ble_eq_true rfl) rfl dX3_lookInHeader_75 (fun H locs hP hD hS => ?_)
          have hst := hst.pi (k := 6) (v := 1) hNd.1.2 rfl
          exact W.vret hx hb hr (fun t ht hW => ⟨⟨(zpi (zpi S2 a 11 v14) a 6 1), rfl, hst, by rw [ht]; exact hP, va_K.moved hW.alike hK, hD⟩, hS.F ht⟩) hS.2.2 dX3_lookInHeader_78
        · skip
          refine lv_iload hx hb dX3_lookInHeader_56 (lv_at hl 0 rfl) ?_
          refine lv_aload_n hx hb dX3_lookInHeader_58 rfl (lv_at hl 4 rfl) ?_
          refine zfalen (v := 62) hx hb hK hP hFa.1 hFa.2.1 (by decide) dX3_lookInHeader_59 ?_
          refine lv_icmp_lt (tgt := 79) hx hb dX3_lookInHeader_60 (by decide) (fun c15 => ?_) (fun c15 => ?_)
          · skip
            refine lv_aload_n hx hb dX3_lookInHeader_79 rfl (lv_at hl 2 rfl) ?_
            refine lv_aload_n hx hb dX3_lookInHeader_80 rfl (lv_at hl 4 rfl) ?_
            refine lv_iload hx hb dX3_lookInHeader_81 (lv_at hl 0 rfl) ?_
            refine zfald hx hb hK hP hFa.1 hFa.2.1 (zin' (M := 62) (by decide) c12 c15) dX3_lookInHeader_83 ?_
            rcases hq17 : S2.2.2 f (r11 : Int32).toNatClampNeg with _ | y16
            · refine W.eq (g2 := F0 m 84 ls [.null, .ref a]) rfl ?_
              refine zcallv (va_runV (As := [.null]) (rest := []) ⟨hx, hb, hml, hown, hts⟩ (c_X3_answer_0 l dC dI cy G S2 H.size a i r (hst.nd hNd)) (cwV 1 hts gX3_lookInHeader_X3_answer rfl rfl rfl (by decide +kernel) ⟨Nat.le_of_ble_eq_true rfl, Nat.le_of_ble_eq_true rfl⟩) (zpreV hK hP hD hN (zrecv3 hK hP hNd.1)) rfl rfl hl.1 rfl (lv_room (Nat.le_of_ble_eq_true rfl)) dX3_lookInHeader_84 ⟨Nat.le_of_ble_eq_true rfl, Nat.le_of_ble_eq_true rfl⟩) hS hD hA (fun S19 H locs hr18 hP hD hS => ?_)
              have hst := hst.trans hr18
              exact W.vret hx hb hr (fun t ht hW => ⟨⟨S19, rfl, hst, by rw [ht]; exact hP, va_K.moved hW.alike hK, hD⟩, hS.F ht⟩) hS.2.2 dX3_lookInHeader_87
            · refine W.eq (g2 := F0 m 84 ls [.ref y16, .ref a]) rfl ?_
              obtain ⟨k20, t21, hF22⟩ := hst.feb ((hst.fa hFa).2.2 _ y16 ((by simpa using (vp_in_lt ((zin' (M := 62) (by decide) c12 c15))))) hq17)
              refine zcallv (va_runV (As := [.ref y16]) (rest := []) ⟨hx, hb, hml, hown, hts⟩ (c_X3_answer l dC dI cy G S2 H.size a i r y16 k20 t21 (hst.nd hNd) (hst.fr hF22)) (cwV 1 hts gX3_lookInHeader_X3_answer rfl rfl rfl (by decide +kernel) ⟨Nat.le_of_ble_eq_true rfl, Nat.le_of_ble_eq_true rfl⟩) (zpreV hK hP hD hN (zrecv3 hK hP hNd.1)) rfl rfl hl.1 rfl (lv_room (Nat.le_of_ble_eq_true rfl)) dX3_lookInHeader_84 ⟨Nat.le_of_ble_eq_true rfl, Nat.le_of_ble_eq_true rfl⟩) hS hD hA (fun S24 H locs hr23 hP hD hS => ?_)
              have hst := hst.trans hr23
              exact W.vret hx hb hr (fun t ht hW => ⟨⟨S24, rfl, hst, by rw [ht]; exact hP, va_K.moved hW.alike hK, hD⟩, hS.F ht⟩) hS.2.2 dX3_lookInHeader_87
          · skip
            refine lv_aload_n hx hb dX3_lookInHeader_63 rfl (lv_at hl 2 rfl) ?_
            refine lv_dup hx hb dX3_lookInHeader_64 rfl ?_
            refine zget (ci := 3) (C := RX3) (T := TX3) (N := 15) hx hb hts hi3 hown hK hP hNd.1 rfl rfl 11 (by decide) (hts (.fieldLink RX3 52 "LinCluster$Node" "headersLost" "I") (by decide +kernel)) (fun _ h9 => h9) rfl dX3_lookInHeader_65 ?_
            refine lv_topi (fun v25 ev25 => ?_)
            refine lv_iconst (v := 1) hx hb dX3_lookInHeader_68 (by decide) ?_
            refine lv_iadd hx hb dX3_lookInHeader_69 ?_
            refine lv_topi (fun v26 ev26 => ?_)
            refine zputi (ci := 3) (v := v26) (ty := .int) (C := RX3) (T := TX3) (N := 15) hx hb hts hi3 tyX3 tyX3_ok nmX3 hown hK hP hD hS hNd.1 rfl rfl 11 (by decide) (hts (.fieldLink RX3 52 "LinCluster$Node" "headersLost" "I") (by decide +kernel)) (fun _ h9 => h9) rfl (by decide +kernel) rfl rfl (Nat.le_of_ble_eq_true rfl) rfl dX3_lookInHeader_70 (fun H locs hP hD hS => ?_)
            have hst := hst.pi (k := 11) (v := v26) hNd.1.2 rfl
            refine lv_aload_n hx hb dX3_lookInHeader_73 rfl (lv_at hl 2 rfl) ?_
            refine lv_iconst (v := 1) hx hb dX3_lookInHeader_74 (by decide) ?_
            refine zputi (ci := 3) (v := 1) (ty := .int) (C := RX3) (T := TX3) (N := 15) hx hb hts hi3 tyX3 tyX3_ok nmX3 hown hK hP hD hS hNd.1 rfl rfl 6 (by decide) (hts (.fieldLink RX3 36 "LinCluster$Node" "at" "I") (by decide +kernel)) (fun _ h9 => h9) rfl (by decide +kernel) rfl rfl (Nat.le_of_ble_eq_true rfl) rfl dX3_lookInHeader_75 (fun H locs hP hD hS => ?_)
            have hst := hst.pi (k := 6) (v := 1) hNd.1.2 rfl
            exact W.vret hx hb hr (fun t ht hW => ⟨⟨(zpi (zpi S2 a 11 v26) a 6 1), rfl, hst, by rw [ht]; exact hP, va_K.moved hW.alike hK, hD⟩, hS.F ht⟩) hS.2.2 dX3_lookInHeader_78
    · skip
      refine lv_iload_n hx hb dX3_lookInHeader_22 rfl (lv_at hl 0 rfl) ?_
      refine lv_bipush (v := 85) hx hb dX3_lookInHeader_23 (by decide) ?_
      refine lv_icmp_ne (tgt := 34) hx hb dX3_lookInHeader_25 (by decide) (fun c27 => ?_) (fun c27 => ?_)
      · skip
        refine lv_aload_n hx hb dX3_lookInHeader_34 rfl (lv_at hl 1 rfl) ?_
        refine zget (ci := 3) (C := RX3) (T := TX3) (N := 15) hx hb hts hi3 hown hK hP hNd.1 rfl rfl 7 (by decide) (hts (.fieldLink RX3 39 "LinCluster$Node" "synced" "Z") (by decide +kernel)) (fun _ h9 => h9) rfl dX3_lookInHeader_35 ?_
        refine lv_topi (fun v28 ev28 => ?_)
        refine lv_if_eq (tgt := 48) hx hb dX3_lookInHeader_38 (by decide) (fun c29 => ?_) (fun c29 => ?_)
        · skip
          refine lv_iconst (v := (-1)) hx hb dX3_lookInHeader_48 (by decide) ?_
          refine lv_istore (lv' := [(4, .int (-1)), (3, .int r1), (0, .ref a), (1, .int n), (2, .ref f)]) hx hb dX3_lookInHeader_49 hl (by decide) rfl (fun ls hl => ?_)
          refine lv_iload hx hb dX3_lookInHeader_51 (lv_at hl 0 rfl) ?_
          refine lv_if_lt (tgt := 63) hx hb dX3_lookInHeader_53 (by decide) (fun c30 => ?_) (fun c30 => ?_)
          · skip
            refine lv_aload_n hx hb dX3_lookInHeader_63 rfl (lv_at hl 2 rfl) ?_
            refine lv_dup hx hb dX3_lookInHeader_64 rfl ?_
            refine zget (ci := 3) (C := RX3) (T := TX3) (N := 15) hx hb hts hi3 hown hK hP hNd.1 rfl rfl 11 (by decide) (hts (.fieldLink RX3 52 "LinCluster$Node" "headersLost" "I") (by decide +kernel)) (fun _ h9 => h9) rfl dX3_lookInHeader_65 ?_
            refine lv_topi (fun v31 ev31 => ?_)
            refine lv_iconst (v := 1) hx hb dX3_lookInHeader_68 (by decide) ?_
            refine lv_iadd hx hb dX3_lookInHeader_69 ?_
            refine lv_topi (fun v32 ev32 => ?_)
            refine zputi (ci := 3) (v := v32) (ty := .int) (C := RX3) (T := TX3) (N := 15) hx hb hts hi3 tyX3 tyX3_ok nmX3 hown hK hP hD hS hNd.1 rfl rfl 11 (by decide) (hts (.fieldLink RX3 52 "LinCluster$Node" "headersLost" "I") (by decide +kernel)) (fun _ h9 => h9) rfl (by decide +kernel) rfl rfl (Nat.le_of_ble_eq_true rfl) rfl dX3_lookInHeader_70 (fun H locs hP hD hS => ?_)
            have hst := hst.pi (k := 11) (v := v32) hNd.1.2 rfl
            refine lv_aload_n hx hb dX3_lookInHeader_73 rfl (lv_at hl 2 rfl) ?_
            refine lv_iconst (v := 1) hx hb dX3_lookInHeader_74 (by decide) ?_
            refine zputi (ci := 3) (v := 1) (ty := .int) (C := RX3) (T := TX3) (N := 15) hx hb hts hi3 tyX3 tyX3_ok nmX3 hown hK hP hD hS hNd.1 rfl rfl 6 (by decide) (hts (.fieldLink RX3 36 "LinCluster$Node" "at" "I") (by decide +kernel)) (fun _ h9 => h9) rfl (by decide +kernel) rfl rfl (Nat.le_of_ble_eq_true rfl) rfl dX3_lookInHeader_75 (fun H locs hP hD hS => ?_)
            have hst := hst.pi (k := 6) (v := 1) hNd.1.2 rfl
            exact W.vret hx hb hr (fun t ht hW => ⟨⟨(zpi (zpi S2 a 11 v32) a 6 1), rfl, hst, by rw [ht]; exact hP, va_K.moved hW.alike hK, hD⟩, hS.F ht⟩) hS.2.2 dX3_lookInHeader_78
          · exact absurd c30 (by decide)
        · skip
          refine lv_iload_n hx hb dX3_lookInHeader_41 rfl (lv_at hl 0 rfl) ?_
          refine vp_callSi (va_Run.run (va_runSN (As := [.int r1]) (rest := []) ⟨hx, hb, hml, hown, hts⟩ (c_X6_idOf l r1) ⟨va_cnB 1 hts gX3_lookInHeader_X6_idOf_n106 rfl rfl rfl (zN_X3_106 hN) (hts (.initialized RX6) (by decide +kernel)) (by decide +kernel) ⟨Nat.le_of_ble_eq_true rfl, Nat.le_of_ble_eq_true rfl⟩, hts (.static yX6_idOf) (by decide +kernel), trivial⟩ zpreS0 rfl rfl hl.1 rfl (lv_room (Nat.le_of_ble_eq_true rfl)) dX3_lookInHeader_42 ⟨Nat.le_of_ble_eq_true rfl, Nat.le_of_ble_eq_true rfl⟩)) (fun r33 hr33 => ?_)
          refine lv_goto (tgt := 49) hx hb dX3_lookInHeader_45 (by decide) ?_
          refine lv_istore (lv' := [(4, .int r33), (3, .int r1), (0, .ref a), (1, .int n), (2, .ref f)]) hx hb dX3_lookInHeader_49 hl (by decide) rfl (fun ls hl => ?_)
          refine lv_iload hx hb dX3_lookInHeader_51 (lv_at hl 0 rfl) ?_
          refine lv_if_lt (tgt := 63) hx hb dX3_lookInHeader_53 (by decide) (fun c34 => ?_) (fun c34 => ?_)
          · skip
            refine lv_aload_n hx hb dX3_lookInHeader_63 rfl (lv_at hl 2 rfl) ?_
            refine lv_dup hx hb dX3_lookInHeader_64 rfl ?_
            refine zget (ci := 3) (C := RX3) (T := TX3) (N := 15) hx hb hts hi3 hown hK hP hNd.1 rfl rfl 11 (by decide) (hts (.fieldLink RX3 52 "LinCluster$Node" "headersLost" "I") (by decide +kernel)) (fun _ h9 => h9) rfl dX3_lookInHeader_65 ?_
            refine lv_topi (fun v35 ev35 => ?_)
            refine lv_iconst (v := 1) hx hb dX3_lookInHeader_68 (by decide) ?_
            refine lv_iadd hx hb dX3_lookInHeader_69 ?_
            refine lv_topi (fun v36 ev36 => ?_)
            refine zputi (ci := 3) (v := v36) (ty := .int) (C := RX3) (T := TX3) (N := 15) hx hb hts hi3 tyX3 tyX3_ok nmX3 hown hK hP hD hS hNd.1 rfl rfl 11 (by decide) (hts (.fieldLink RX3 52 "LinCluster$Node" "headersLost" "I") (by decide +kernel)) (fun _ h9 => h9) rfl (by decide +kernel) rfl rfl (Nat.le_of_ble_eq_true rfl) rfl dX3_lookInHeader_70 (fun H locs hP hD hS => ?_)
            have hst := hst.pi (k := 11) (v := v36) hNd.1.2 rfl
            refine lv_aload_n hx hb dX3_lookInHeader_73 rfl (lv_at hl 2 rfl) ?_
            refine lv_iconst (v := 1) hx hb dX3_lookInHeader_74 (by decide) ?_
            refine zputi (ci := 3) (v := 1) (ty := .int) (C := RX3) (T := TX3) (N := 15) hx hb hts hi3 tyX3 tyX3_ok nmX3 hown hK hP hD hS hNd.1 rfl rfl 6 (by decide) (hts (.fieldLink RX3 36 "LinCluster$Node" "at" "I") (by decide +kernel)) (fun _ h9 => h9) rfl (by decide +kernel) rfl rfl (Nat.le_of_ble_eq_true rfl) rfl dX3_lookInHeader_75 (fun H locs hP hD hS => ?_)
            have hst := hst.pi (k := 6) (v := 1) hNd.1.2 rfl
            exact W.vret hx hb hr (fun t ht hW => ⟨⟨(zpi (zpi S2 a 11 v36) a 6 1), rfl, hst, by rw [ht]; exact hP, va_K.moved hW.alike hK, hD⟩, hS.F ht⟩) hS.2.2 dX3_lookInHeader_78
          · skip
            refine lv_iload hx hb dX3_lookInHeader_56 (lv_at hl 0 rfl) ?_
            refine lv_aload_n hx hb dX3_lookInHeader_58 rfl (lv_at hl 4 rfl) ?_
            refine zfalen (v := 62) hx hb hK hP hFa.1 hFa.2.1 (by decide) dX3_lookInHeader_59 ?_
            refine lv_icmp_lt (tgt := 79) hx hb dX3_lookInHeader_60 (by decide) (fun c37 => ?_) (fun c37 => ?_)
            · skip
              refine lv_aload_n hx hb dX3_lookInHeader_79 rfl (lv_at hl 2 rfl) ?_
              refine lv_aload_n hx hb dX3_lookInHeader_80 rfl (lv_at hl 4 rfl) ?_
              refine lv_iload hx hb dX3_lookInHeader_81 (lv_at hl 0 rfl) ?_
              refine zfald hx hb hK hP hFa.1 hFa.2.1 (zin' (M := 62) (by decide) c34 c37) dX3_lookInHeader_83 ?_
              rcases hq39 : S2.2.2 f (r33 : Int32).toNatClampNeg with _ | y38
              · refine W.eq (g2 := F0 m 84 ls [.null, .ref a]) rfl ?_
                refine zcallv (va_runV (As := [.null]) (rest := []) ⟨hx, hb, hml, hown, hts⟩ (c_X3_answer_0 l dC dI cy G S2 H.size a i r (hst.nd hNd)) (cwV 1 hts gX3_lookInHeader_X3_answer rfl rfl rfl (by decide +kernel) ⟨Nat.le_of_ble_eq_true rfl, Nat.le_of_ble_eq_true rfl⟩) (zpreV hK hP hD hN (zrecv3 hK hP hNd.1)) rfl rfl hl.1 rfl (lv_room (Nat.le_of_ble_eq_true rfl)) dX3_lookInHeader_84 ⟨Nat.le_of_ble_eq_true rfl, Nat.le_of_ble_eq_true rfl⟩) hS hD hA (fun S41 H locs hr40 hP hD hS => ?_)
                have hst := hst.trans hr40
                exact W.vret hx hb hr (fun t ht hW => ⟨⟨S41, rfl, hst, by rw [ht]; exact hP, va_K.moved hW.alike hK, hD⟩, hS.F ht⟩) hS.2.2 dX3_lookInHeader_87
              · refine W.eq (g2 := F0 m 84 ls [.ref y38, .ref a]) rfl ?_
                obtain ⟨k42, t43, hF44⟩ := hst.feb ((hst.fa hFa).2.2 _ y38 ((by simpa using (vp_in_lt ((zin' (M := 62) (by decide) c34 c37))))) hq39)
                refine zcallv (va_runV (As := [.ref y38]) (rest := []) ⟨hx, hb, hml, hown, hts⟩ (c_X3_answer l dC dI cy G S2 H.size a i r y38 k42 t43 (hst.nd hNd) (hst.fr hF44)) (cwV 1 hts gX3_lookInHeader_X3_answer rfl rfl rfl (by decide +kernel) ⟨Nat.le_of_ble_eq_true rfl, Nat.le_of_ble_eq_true rfl⟩) (zpreV hK hP hD hN (zrecv3 hK hP hNd.1)) rfl rfl hl.1 rfl (lv_room (Nat.le_of_ble_eq_true rfl)) dX3_lookInHeader_84 ⟨Nat.le_of_ble_eq_true rfl, Nat.le_of_ble_eq_true rfl⟩) hS hD hA (fun S46 H locs hr45 hP hD hS => ?_)
                have hst := hst.trans hr45
                exact W.vret hx hb hr (fun t ht hW => ⟨⟨S46, rfl, hst, by rw [ht]; exact hP, va_K.moved hW.alike hK, hD⟩, hS.F ht⟩) hS.2.2 dX3_lookInHeader_87
            · skip
              refine lv_aload_n hx hb dX3_lookInHeader_63 rfl (lv_at hl 2 rfl) ?_
              refine lv_dup hx hb dX3_lookInHeader_64 rfl ?_
              refine zget (ci := 3) (C := RX3) (T := TX3) (N := 15) hx hb hts hi3 hown hK hP hNd.1 rfl rfl 11 (by decide) (hts (.fieldLink RX3 52 "LinCluster$Node" "headersLost" "I") (by decide +kernel)) (fun _ h9 => h9) rfl dX3_lookInHeader_65 ?_
              refine lv_topi (fun v47 ev47 => ?_)
              refine lv_iconst (v := 1) hx hb dX3_lookInHeader_68 (by decide) ?_
              refine lv_iadd hx hb dX3_lookInHeader_69 ?_
              refine lv_topi (fun v48 ev48 => ?_)
              refine zputi (ci := 3) (v := v48) (ty := .int) (C := RX3) (T := TX3) (N := 15) hx hb hts hi3 tyX3 tyX3_ok nmX3 hown hK hP hD hS hNd.1 rfl rfl 11 (by decide) (hts (.fieldLink RX3 52 "LinCluster$Node" "headersLost" "I") (by decide +kernel)) (fun _ h9 => h9) rfl (by decide +kernel) rfl rfl (Nat.le_of_ble_eq_true rfl) rfl dX3_lookInHeader_70 (fun H locs hP hD hS => ?_)
              have hst := hst.pi (k := 11) (v := v48) hNd.1.2 rfl
              refine lv_aload_n hx hb dX3_lookInHeader_73 rfl (lv_at hl 2 rfl) ?_
              refine lv_iconst (v := 1) hx hb dX3_lookInHeader_74 (by decide) ?_
              refine zputi (ci := 3) (v := 1) (ty := .int) (C := RX3) (T := TX3) (N := 15) hx hb hts hi3 tyX3 tyX3_ok nmX3 hown hK hP hD hS hNd.1 rfl rfl 6 (by decide) (hts (.fieldLink RX3 36 "LinCluster$Node" "at" "I") (by decide +kernel)) (fun _ h9 => h9) rfl (by decide +kernel) rfl rfl (Nat.le_of_ble_eq_true rfl) rfl dX3_lookInHeader_75 (fun H locs hP hD hS => ?_)
              have hst := hst.pi (k := 6) (v := 1) hNd.1.2 rfl
              exact W.vret hx hb hr (fun t ht hW => ⟨⟨(zpi (zpi S2 a 11 v48) a 6 1), rfl, hst, by rw [ht]; exact hP, va_K.moved hW.alike hK, hD⟩, hS.F ht⟩) hS.2.2 dX3_lookInHeader_78
      · skip
        refine lv_aload_n hx hb dX3_lookInHeader_28 rfl (lv_at hl 1 rfl) ?_
        refine lv_iconst (v := 1) hx hb dX3_lookInHeader_29 (by decide) ?_
        refine zputi (ci := 3) (v := 1) (ty := .boolean) (C := RX3) (T := TX3) (N := 15) hx hb hts hi3 tyX3 tyX3_ok nmX3 hown hK hP hD hS hNd.1 rfl rfl 7 (by decide) (hts (.fieldLink RX3 39 "LinCluster$Node" "synced" "Z") (by decide +kernel)) (fun _ h9 => h9) rfl (by decide +kernel) rfl rfl (Nat.le_of_ble_eq_true rfl) rfl dX3_lookInHeader_30 (fun H locs hP hD hS => ?_)
        have hst := hst.pi (k := 7) (v := 1) hNd.1.2 rfl
        exact W.vret hx hb hr (fun t ht hW => ⟨⟨(zpi S2 a 7 1), rfl, hst, by rw [ht]; exact hP, va_K.moved hW.alike hK, hD⟩, hS.F ht⟩) hS.2.2 dX3_lookInHeader_33
  · skip
    exact W.vret hx hb hr (fun t ht hW => ⟨⟨S2, rfl, hst, by rw [ht]; exact hP, va_K.moved hW.alike hK, hD⟩, hS.F ht⟩) hS.2.2 dX3_lookInHeader_14
set_option maxHeartbeats 4000000 in
set_option maxRecDepth 100000 in
theorem c_X3_look (l : Launch) (dC : Nat → ClassId) (dI : Nat → Nat → Nat) (cy : Nat → ClassId) (G : zG) (S : zS) (sz : Nat) (a i r f : Nat) (n k : Int32) (hNd : zNd G S a i r) (hRf : zRf G S) (hFa : zFa G S f) : Met l yX3_look wsX3_look ({ frames := 4, cells := 0, slots := 0, locals := 95 }) (zP dC dI cy [.ref a, .int n, .int k, .ref f] G S sz) (va_Qv (fun S' => zSt G S S') (zB dC dI cy (zA cy G S sz) G) (zA cy G S sz)) 0 0 (zA cy G S sz) := by
  refine Met.ofW (cc := cX3_look) (maxL := 4) (ret := none) (by decide) rfl ?_
  intro p e s m args below meth c s₁ B hml hv
  obtain ⟨rfl, hsz, hP, hK, hD0, hN⟩ := hv
  have hx := B.exec
  have hb := B.bytes
  have hr := B.returns
  have hts := atoms_spec (ws := wsX3_look) B.pre
  have hown : s.vm.findClass RX3 = some m.cls := findClass_of_methodNamed B.named
  have hlocks := B.notSynchronized
  subst hsz
  have hD : va_D (zA cy G S s.heap.size) (zW cy G S) := hD0.self
  generalize hAe : zA cy G S s.heap.size = A at hD ⊢
  have hA : ∀ q : Nat, s.heap.size ≤ q → A q := fun q h => by rw [← hAe]; exact Or.inr h
  have hS : va_S A s.heap s.heap [] := va_S.rf
  have hst := zSt.refl G S
  have hl := lv_entry ([.ref a, .int n, .int k, .ref f]) (n := 4) (Nat.le_of_ble_eq_true rfl)
  rw [lg_entry_eq]
  generalize (lg_sl ([.ref a, .int n, .int k, .ref f]) ++ List.replicate (4 - (lg_sl ([.ref a, .int n, .int k, .ref f])).length) Slot.unset).toArray = ls at hl ⊢
  have hl : lv_has ls 4 [(0, .ref a), (1, .int n), (2, .int k), (3, .ref f)] := hl
  have hi3 : ∀ w ∈ wsX30, w ∈ wsX3_look := by decide +kernel
  refine lv_aload_n hx hb dX3_look_0 rfl (lv_at hl 0 rfl) ?_
  refine zget (ci := 3) (C := RX3) (T := TX3) (N := 15) hx hb hts hi3 hown hK hP hNd.1 rfl rfl 9 (by decide) (hts (.fieldLink RX3 46 "LinCluster$Node" "wakingBits" "I") (by decide +kernel)) (fun _ h9 => h9) rfl dX3_look_1 ?_
  refine lv_topi (fun v1 ev1 => ?_)
  refine lv_if_le (tgt := 17) hx hb dX3_look_4 (by decide) (fun c2 => ?_) (fun c2 => ?_)
  · skip
    refine lv_aload_n hx hb dX3_look_17 rfl (lv_at hl 0 rfl) ?_
    refine zget (ci := 3) (C := RX3) (T := TX3) (N := 15) hx hb hts hi3 hown hK hP hNd.1 rfl rfl 6 (by decide) (hts (.fieldLink RX3 36 "LinCluster$Node" "at" "I") (by decide +kernel)) (fun _ h9 => h9) rfl dX3_look_18 ?_
    refine lv_topi (fun v3 ev3 => ?_)
    refine lv_if_ne (tgt := 31) hx hb dX3_look_21 (by decide) (fun c4 => ?_) (fun c4 => ?_)
    · skip
      refine lv_aload_n hx hb dX3_look_31 rfl (lv_at hl 0 rfl) ?_
      refine lv_iload_n hx hb dX3_look_32 rfl (lv_at hl 1 rfl) ?_
      refine lv_iconst (v := 1) hx hb dX3_look_33 (by decide) ?_
      refine lv_icmp_ne (tgt := 46) hx hb dX3_look_34 (by decide) (fun c5 => ?_) (fun c5 => ?_)
      · skip
        refine lv_iconst (v := 0) hx hb dX3_look_46 (by decide) ?_
        refine zputi (ci := 3) (v := 0) (ty := .int) (C := RX3) (T := TX3) (N := 15) hx hb hts hi3 tyX3 tyX3_ok nmX3 hown hK hP hD hS hNd.1 rfl rfl 8 (by decide) (hts (.fieldLink RX3 43 "LinCluster$Node" "ones" "I") (by decide +kernel)) (fun _ h9 => h9) rfl (by decide +kernel) rfl rfl (Nat.le_of_ble_eq_true rfl) rfl dX3_look_47 (fun H locs hP hD hS => ?_)
        have hst := hst.pi (k := 8) (v := 0) hNd.1.2 rfl
        refine lv_aload_n hx hb dX3_look_50 rfl (lv_at hl 0 rfl) ?_
        refine zget (ci := 3) (C := RX3) (T := TX3) (N := 15) hx hb hts hi3 hown hK hP hNd.1 rfl rfl 8 (by decide) (hts (.fieldLink RX3 43 "LinCluster$Node" "ones" "I") (by decide +kernel)) (fun _ h9 => h9) rfl dX3_look_51 ?_
        refine lv_topi (fun v6 ev6 => ?_)
        refine lv_sipush (v := 3000) hx hb dX3_look_54 (by decide) ?_
        refine lv_icmp_lt (tgt := 68) hx hb dX3_look_57 (by decide) (fun c7 => ?_) (fun c7 => ?_)
        · skip
          refine lv_iload_n hx hb dX3_look_68 rfl (lv_at hl 1 rfl) ?_
          refine lv_if_ne (tgt := 87) hx hb dX3_look_69 (by decide) (fun c8 => ?_) (fun c8 => ?_)
          · skip
            refine lv_aload_n hx hb dX3_look_87 rfl (lv_at hl 0 rfl) ?_
            refine zget (ci := 3) (C := RX3) (T := TX3) (N := 15) hx hb hts hi3 hown hK hP hNd.1 rfl rfl 6 (by decide) (hts (.fieldLink RX3 36 "LinCluster$Node" "at" "I") (by decide +kernel)) (fun _ h9 => h9) rfl dX3_look_88 ?_
            refine lv_topi (fun v9 ev9 => ?_)
            refine lv_iconst (v := 2) hx hb dX3_look_91 (by decide) ?_
            refine lv_icmp_ne (tgt := 107) hx hb dX3_look_92 (by decide) (fun c10 => ?_) (fun c10 => ?_)
            · skip
              refine lv_aload_n hx hb dX3_look_107 rfl (lv_at hl 0 rfl) ?_
              refine zget (ci := 3) (C := RX3) (T := TX3) (N := 15) hx hb hts hi3 hown hK hP hNd.1 rfl rfl 6 (by decide) (hts (.fieldLink RX3 36 "LinCluster$Node" "at" "I") (by decide +kernel)) (fun _ h9 => h9) rfl dX3_look_108 ?_
              refine lv_topi (fun v11 ev11 => ?_)
              refine lv_iconst (v := 3) hx hb dX3_look_111 (by decide) ?_
              refine lv_icmp_ne (tgt := 124) hx hb dX3_look_112 (by decide) (fun c12 => ?_) (fun c12 => ?_)
              · skip
                refine lv_aload_n hx hb dX3_look_124 rfl (lv_at hl 0 rfl) ?_
                refine zget (ci := 3) (C := RX3) (T := TX3) (N := 15) hx hb hts hi3 hown hK hP hNd.1 rfl rfl 6 (by decide) (hts (.fieldLink RX3 36 "LinCluster$Node" "at" "I") (by decide +kernel)) (fun _ h9 => h9) rfl dX3_look_125 ?_
                refine lv_topi (fun v13 ev13 => ?_)
                refine lv_iconst (v := 4) hx hb dX3_look_128 (by decide) ?_
                refine lv_icmp_ne (tgt := 140) hx hb dX3_look_129 (by decide) (fun c14 => ?_) (fun c14 => ?_)
                · skip
                  refine lv_aload_n hx hb dX3_look_140 rfl (lv_at hl 0 rfl) ?_
                  refine zget (ci := 3) (C := RX3) (T := TX3) (N := 15) hx hb hts hi3 hown hK hP hNd.1 rfl rfl 6 (by decide) (hts (.fieldLink RX3 36 "LinCluster$Node" "at" "I") (by decide +kernel)) (fun _ h9 => h9) rfl dX3_look_141 ?_
                  refine lv_topi (fun v15 ev15 => ?_)
                  refine lv_iconst (v := 5) hx hb dX3_look_144 (by decide) ?_
                  refine lv_icmp_ne (tgt := 153) hx hb dX3_look_145 (by decide) (fun c16 => ?_) (fun c16 => ?_)
                  · skip
                    exact W.vret hx hb hr (fun t ht hW => ⟨⟨(zpi S a 8 0), rfl, hst, by rw [ht]; exact hP, va_K.moved hW.alike hK, hD⟩, hS.F ht⟩) hS.2.2 dX3_look_153
                  · skip
                    refine lv_aload_n hx hb dX3_look_148 rfl (lv_at hl 0 rfl) ?_
                    refine lv_iload_n hx hb dX3_look_149 rfl (lv_at hl 1 rfl) ?_
                    refine zcallv (va_runV (As := [.int n]) (rest := []) ⟨hx, hb, hml, hown, hts⟩ (c_X3_take l dC dI cy G (zpi S a 8 0) H.size a i r n (hst.nd hNd) (hst.rf hRf)) (cwV 1 hts gX3_look_X3_take rfl rfl rfl (by decide +kernel) ⟨Nat.le_of_ble_eq_true rfl, Nat.le_of_ble_eq_true rfl⟩) (zpreV hK hP hD hN (zrecv3 hK hP hNd.1)) rfl rfl hl.1 rfl (lv_room (Nat.le_of_ble_eq_true rfl)) dX3_look_150 ⟨Nat.le_of_ble_eq_true rfl, Nat.le_of_ble_eq_true rfl⟩) hS hD hA (fun S18 H locs hr17 hP hD hS => ?_)
                    have hst := hst.trans hr17
                    exact W.vret hx hb hr (fun t ht hW => ⟨⟨S18, rfl, hst, by rw [ht]; exact hP, va_K.moved hW.alike hK, hD⟩, hS.F ht⟩) hS.2.2 dX3_look_153
                · skip
                  refine lv_aload_n hx hb dX3_look_132 rfl (lv_at hl 0 rfl) ?_
                  refine lv_iload_n hx hb dX3_look_133 rfl (lv_at hl 1 rfl) ?_
                  refine zcallv (va_runV (As := [.int n]) (rest := []) ⟨hx, hb, hml, hown, hts⟩ (c_X3_compare l dC dI cy G (zpi S a 8 0) H.size a i r n (hst.nd hNd) (hst.rf hRf)) (cwV 1 hts gX3_look_X3_compare rfl rfl rfl (by decide +kernel) ⟨Nat.le_of_ble_eq_true rfl, Nat.le_of_ble_eq_true rfl⟩) (zpreV hK hP hD hN (zrecv3 hK hP hNd.1)) rfl rfl hl.1 rfl (lv_room (Nat.le_of_ble_eq_true rfl)) dX3_look_134 ⟨Nat.le_of_ble_eq_true rfl, Nat.le_of_ble_eq_true rfl⟩) hS hD hA (fun S20 H locs hr19 hP hD hS => ?_)
                  have hst := hst.trans hr19
                  refine lv_goto (tgt := 153) hx hb dX3_look_137 (by decide) ?_
                  exact W.vret hx hb hr (fun t ht hW => ⟨⟨S20, rfl, hst, by rw [ht]; exact hP, va_K.moved hW.alike hK, hD⟩, hS.F ht⟩) hS.2.2 dX3_look_153
              · skip
                refine lv_aload_n hx hb dX3_look_115 rfl (lv_at hl 0 rfl) ?_
                refine lv_iload_n hx hb dX3_look_116 rfl (lv_at hl 1 rfl) ?_
                refine lv_aload_n hx hb dX3_look_117 rfl (lv_at hl 3 rfl) ?_
                refine zcallv (va_runV (As := [.int n, .ref f]) (rest := []) ⟨hx, hb, hml, hown, hts⟩ (c_X3_lookInHeader l dC dI cy G (zpi S a 8 0) H.size a i r f n (hst.nd hNd) (hst.fa hFa)) (cwV 2 hts gX3_look_X3_lookInHeader rfl rfl rfl (by decide +kernel) ⟨Nat.le_of_ble_eq_true rfl, Nat.le_of_ble_eq_true rfl⟩) (zpreV hK hP hD hN (zrecv3 hK hP hNd.1)) rfl rfl hl.1 rfl (lv_room (Nat.le_of_ble_eq_true rfl)) dX3_look_118 ⟨Nat.le_of_ble_eq_true rfl, Nat.le_of_ble_eq_true rfl⟩) hS hD hA (fun S22 H locs hr21 hP hD hS => ?_)
                have hst := hst.trans hr21
                refine lv_goto (tgt := 153) hx hb dX3_look_121 (by decide) ?_
                exact W.vret hx hb hr (fun t ht hW => ⟨⟨S22, rfl, hst, by rw [ht]; exact hP, va_K.moved hW.alike hK, hD⟩, hS.F ht⟩) hS.2.2 dX3_look_153
            · skip
              refine lv_iload_n hx hb dX3_look_95 rfl (lv_at hl 1 rfl) ?_
              refine lv_iconst (v := 1) hx hb dX3_look_96 (by decide) ?_
              refine lv_icmp_ne (tgt := 107) hx hb dX3_look_97 (by decide) (fun c23 => ?_) (fun c23 => ?_)
              · skip
                refine lv_aload_n hx hb dX3_look_107 rfl (lv_at hl 0 rfl) ?_
                refine zget (ci := 3) (C := RX3) (T := TX3) (N := 15) hx hb hts hi3 hown hK hP hNd.1 rfl rfl 6 (by decide) (hts (.fieldLink RX3 36 "LinCluster$Node" "at" "I") (by decide +kernel)) (fun _ h9 => h9) rfl dX3_look_108 ?_
                refine lv_topi (fun v24 ev24 => ?_)
                refine lv_iconst (v := 3) hx hb dX3_look_111 (by decide) ?_
                refine lv_icmp_ne (tgt := 124) hx hb dX3_look_112 (by decide) (fun c25 => ?_) (fun c25 => ?_)
                · skip
                  refine lv_aload_n hx hb dX3_look_124 rfl (lv_at hl 0 rfl) ?_
                  refine zget (ci := 3) (C := RX3) (T := TX3) (N := 15) hx hb hts hi3 hown hK hP hNd.1 rfl rfl 6 (by decide) (hts (.fieldLink RX3 36 "LinCluster$Node" "at" "I") (by decide +kernel)) (fun _ h9 => h9) rfl dX3_look_125 ?_
                  refine lv_topi (fun v26 ev26 => ?_)
                  refine lv_iconst (v := 4) hx hb dX3_look_128 (by decide) ?_
                  refine lv_icmp_ne (tgt := 140) hx hb dX3_look_129 (by decide) (fun c27 => ?_) (fun c27 => ?_)
                  · skip
                    refine lv_aload_n hx hb dX3_look_140 rfl (lv_at hl 0 rfl) ?_
                    refine zget (ci := 3) (C := RX3) (T := TX3) (N := 15) hx hb hts hi3 hown hK hP hNd.1 rfl rfl 6 (by decide) (hts (.fieldLink RX3 36 "LinCluster$Node" "at" "I") (by decide +kernel)) (fun _ h9 => h9) rfl dX3_look_141 ?_
                    refine lv_topi (fun v28 ev28 => ?_)
                    refine lv_iconst (v := 5) hx hb dX3_look_144 (by decide) ?_
                    refine lv_icmp_ne (tgt := 153) hx hb dX3_look_145 (by decide) (fun c29 => ?_) (fun c29 => ?_)
                    · skip
                      exact W.vret hx hb hr (fun t ht hW => ⟨⟨(zpi S a 8 0), rfl, hst, by rw [ht]; exact hP, va_K.moved hW.alike hK, hD⟩, hS.F ht⟩) hS.2.2 dX3_look_153
                    · skip
                      refine lv_aload_n hx hb dX3_look_148 rfl (lv_at hl 0 rfl) ?_
                      refine lv_iload_n hx hb dX3_look_149 rfl (lv_at hl 1 rfl) ?_
                      refine zcallv (va_runV (As := [.int n]) (rest := []) ⟨hx, hb, hml, hown, hts⟩ (c_X3_take l dC dI cy G (zpi S a 8 0) H.size a i r n (hst.nd hNd) (hst.rf hRf)) (cwV 1 hts gX3_look_X3_take rfl rfl rfl (by decide +kernel) ⟨Nat.le_of_ble_eq_true rfl, Nat.le_of_ble_eq_true rfl⟩) (zpreV hK hP hD hN (zrecv3 hK hP hNd.1)) rfl rfl hl.1 rfl (lv_room (Nat.le_of_ble_eq_true rfl)) dX3_look_150 ⟨Nat.le_of_ble_eq_true rfl, Nat.le_of_ble_eq_true rfl⟩) hS hD hA (fun S31 H locs hr30 hP hD hS => ?_)
                      have hst := hst.trans hr30
                      exact W.vret hx hb hr (fun t ht hW => ⟨⟨S31, rfl, hst, by rw [ht]; exact hP, va_K.moved hW.alike hK, hD⟩, hS.F ht⟩) hS.2.2 dX3_look_153
                  · skip
                    refine lv_aload_n hx hb dX3_look_132 rfl (lv_at hl 0 rfl) ?_
                    refine lv_iload_n hx hb dX3_look_133 rfl (lv_at hl 1 rfl) ?_
                    refine zcallv (va_runV (As := [.int n]) (rest := []) ⟨hx, hb, hml, hown, hts⟩ (c_X3_compare l dC dI cy G (zpi S a 8 0) H.size a i r n (hst.nd hNd) (hst.rf hRf)) (cwV 1 hts gX3_look_X3_compare rfl rfl rfl (by decide +kernel) ⟨Nat.le_of_ble_eq_true rfl, Nat.le_of_ble_eq_true rfl⟩) (zpreV hK hP hD hN (zrecv3 hK hP hNd.1)) rfl rfl hl.1 rfl (lv_room (Nat.le_of_ble_eq_true rfl)) dX3_look_134 ⟨Nat.le_of_ble_eq_true rfl, Nat.le_of_ble_eq_true rfl⟩) hS hD hA (fun S33 H locs hr32 hP hD hS => ?_)
                    have hst := hst.trans hr32
                    refine lv_goto (tgt := 153) hx hb dX3_look_137 (by decide) ?_
                    exact W.vret hx hb hr (fun t ht hW => ⟨⟨S33, rfl, hst, by rw [ht]; exact hP, va_K.moved hW.alike hK, hD⟩, hS.F ht⟩) hS.2.2 dX3_look_153
                · skip
                  refine lv_aload_n hx hb dX3_look_115 rfl (lv_at hl 0 rfl) ?_
                  refine lv_iload_n hx hb dX3_look_116 rfl (lv_at hl 1 rfl) ?_
                  refine lv_aload_n hx hb dX3_look_117 rfl (lv_at hl 3 rfl) ?_
                  refine zcallv (va_runV (As := [.int n, .ref f]) (rest := []) ⟨hx, hb, hml, hown, hts⟩ (c_X3_lookInHeader l dC dI cy G (zpi S a 8 0) H.size a i r f n (hst.nd hNd) (hst.fa hFa)) (cwV 2 hts gX3_look_X3_lookInHeader rfl rfl rfl (by decide +kernel) ⟨Nat.le_of_ble_eq_true rfl, Nat.le_of_ble_eq_true rfl⟩) (zpreV hK hP hD hN (zrecv3 hK hP hNd.1)) rfl rfl hl.1 rfl (lv_room (Nat.le_of_ble_eq_true rfl)) dX3_look_118 ⟨Nat.le_of_ble_eq_true rfl, Nat.le_of_ble_eq_true rfl⟩) hS hD hA (fun S35 H locs hr34 hP hD hS => ?_)
                  have hst := hst.trans hr34
                  refine lv_goto (tgt := 153) hx hb dX3_look_121 (by decide) ?_
                  exact W.vret hx hb hr (fun t ht hW => ⟨⟨S35, rfl, hst, by rw [ht]; exact hP, va_K.moved hW.alike hK, hD⟩, hS.F ht⟩) hS.2.2 dX3_look_153
              · skip
                refine lv_aload_n hx hb dX3_look_100 rfl (lv_at hl 0 rfl) ?_
                refine zcallv (va_runV (As := []) (rest := []) ⟨hx, hb, hml, hown, hts⟩ (c_X3_beginHeader l dC dI cy G (zpi S a 8 0) H.size a i r  (hst.nd hNd)) (cwV 0 hts gX3_look_X3_beginHeader rfl rfl rfl (by decide +kernel) ⟨Nat.le_of_ble_eq_true rfl, Nat.le_of_ble_eq_true rfl⟩) (zpreV hK hP hD hN (zrecv3 hK hP hNd.1)) rfl rfl hl.1 rfl (lv_room (Nat.le_of_ble_eq_true rfl)) dX3_look_101 ⟨Nat.le_of_ble_eq_true rfl, Nat.le_of_ble_eq_true rfl⟩) hS hD hA (fun S37 H locs hr36 hP hD hS => ?_)
                have hst := hst.trans hr36
                refine lv_goto (tgt := 153) hx hb dX3_look_104 (by decide) ?_
                exact W.vret hx hb hr (fun t ht hW => ⟨⟨S37, rfl, hst, by rw [ht]; exact hP, va_K.moved hW.alike hK, hD⟩, hS.F ht⟩) hS.2.2 dX3_look_153
          · skip
            refine lv_iload_n hx hb dX3_look_72 rfl (lv_at hl 2 rfl) ?_
            refine lv_iconst (v := 1) hx hb dX3_look_73 (by decide) ?_
            refine lv_iadd hx hb dX3_look_74 ?_
            refine lv_topi (fun v38 ev38 => ?_)
            refine lv_bipush (v := 11) hx hb dX3_look_75 (by decide) ?_
            refine lv_icmp_ne (tgt := 87) hx hb dX3_look_77 (by decide) (fun c39 => ?_) (fun c39 => ?_)
            · skip
              refine lv_aload_n hx hb dX3_look_87 rfl (lv_at hl 0 rfl) ?_
              refine zget (ci := 3) (C := RX3) (T := TX3) (N := 15) hx hb hts hi3 hown hK hP hNd.1 rfl rfl 6 (by decide) (hts (.fieldLink RX3 36 "LinCluster$Node" "at" "I") (by decide +kernel)) (fun _ h9 => h9) rfl dX3_look_88 ?_
              refine lv_topi (fun v40 ev40 => ?_)
              refine lv_iconst (v := 2) hx hb dX3_look_91 (by decide) ?_
              refine lv_icmp_ne (tgt := 107) hx hb dX3_look_92 (by decide) (fun c41 => ?_) (fun c41 => ?_)
              · skip
                refine lv_aload_n hx hb dX3_look_107 rfl (lv_at hl 0 rfl) ?_
                refine zget (ci := 3) (C := RX3) (T := TX3) (N := 15) hx hb hts hi3 hown hK hP hNd.1 rfl rfl 6 (by decide) (hts (.fieldLink RX3 36 "LinCluster$Node" "at" "I") (by decide +kernel)) (fun _ h9 => h9) rfl dX3_look_108 ?_
                refine lv_topi (fun v42 ev42 => ?_)
                refine lv_iconst (v := 3) hx hb dX3_look_111 (by decide) ?_
                refine lv_icmp_ne (tgt := 124) hx hb dX3_look_112 (by decide) (fun c43 => ?_) (fun c43 => ?_)
                · skip
                  refine lv_aload_n hx hb dX3_look_124 rfl (lv_at hl 0 rfl) ?_
                  refine zget (ci := 3) (C := RX3) (T := TX3) (N := 15) hx hb hts hi3 hown hK hP hNd.1 rfl rfl 6 (by decide) (hts (.fieldLink RX3 36 "LinCluster$Node" "at" "I") (by decide +kernel)) (fun _ h9 => h9) rfl dX3_look_125 ?_
                  refine lv_topi (fun v44 ev44 => ?_)
                  refine lv_iconst (v := 4) hx hb dX3_look_128 (by decide) ?_
                  refine lv_icmp_ne (tgt := 140) hx hb dX3_look_129 (by decide) (fun c45 => ?_) (fun c45 => ?_)
                  · skip
                    refine lv_aload_n hx hb dX3_look_140 rfl (lv_at hl 0 rfl) ?_
                    refine zget (ci := 3) (C := RX3) (T := TX3) (N := 15) hx hb hts hi3 hown hK hP hNd.1 rfl rfl 6 (by decide) (hts (.fieldLink RX3 36 "LinCluster$Node" "at" "I") (by decide +kernel)) (fun _ h9 => h9) rfl dX3_look_141 ?_
                    refine lv_topi (fun v46 ev46 => ?_)
                    refine lv_iconst (v := 5) hx hb dX3_look_144 (by decide) ?_
                    refine lv_icmp_ne (tgt := 153) hx hb dX3_look_145 (by decide) (fun c47 => ?_) (fun c47 => ?_)
                    · skip
                      exact W.vret hx hb hr (fun t ht hW => ⟨⟨(zpi S a 8 0), rfl, hst, by rw [ht]; exact hP, va_K.moved hW.alike hK, hD⟩, hS.F ht⟩) hS.2.2 dX3_look_153
                    · skip
                      refine lv_aload_n hx hb dX3_look_148 rfl (lv_at hl 0 rfl) ?_
                      refine lv_iload_n hx hb dX3_look_149 rfl (lv_at hl 1 rfl) ?_
                      refine zcallv (va_runV (As := [.int n]) (rest := []) ⟨hx, hb, hml, hown, hts⟩ (c_X3_take l dC dI cy G (zpi S a 8 0) H.size a i r n (hst.nd hNd) (hst.rf hRf)) (cwV 1 hts gX3_look_X3_take rfl rfl rfl (by decide +kernel) ⟨Nat.le_of_ble_eq_true rfl, Nat.le_of_ble_eq_true rfl⟩) (zpreV hK hP hD hN (zrecv3 hK hP hNd.1)) rfl rfl hl.1 rfl (lv_room (Nat.le_of_ble_eq_true rfl)) dX3_look_150 ⟨Nat.le_of_ble_eq_true rfl, Nat.le_of_ble_eq_true rfl⟩) hS hD hA (fun S49 H locs hr48 hP hD hS => ?_)
                      have hst := hst.trans hr48
                      exact W.vret hx hb hr (fun t ht hW => ⟨⟨S49, rfl, hst, by rw [ht]; exact hP, va_K.moved hW.alike hK, hD⟩, hS.F ht⟩) hS.2.2 dX3_look_153
                  · skip
                    refine lv_aload_n hx hb dX3_look_132 rfl (lv_at hl 0 rfl) ?_
                    refine lv_iload_n hx hb dX3_look_133 rfl (lv_at hl 1 rfl) ?_
                    refine zcallv (va_runV (As := [.int n]) (rest := []) ⟨hx, hb, hml, hown, hts⟩ (c_X3_compare l dC dI cy G (zpi S a 8 0) H.size a i r n (hst.nd hNd) (hst.rf hRf)) (cwV 1 hts gX3_look_X3_compare rfl rfl rfl (by decide +kernel) ⟨Nat.le_of_ble_eq_true rfl, Nat.le_of_ble_eq_true rfl⟩) (zpreV hK hP hD hN (zrecv3 hK hP hNd.1)) rfl rfl hl.1 rfl (lv_room (Nat.le_of_ble_eq_true rfl)) dX3_look_134 ⟨Nat.le_of_ble_eq_true rfl, Nat.le_of_ble_eq_true rfl⟩) hS hD hA (fun S51 H locs hr50 hP hD hS => ?_)
                    have hst := hst.trans hr50
                    refine lv_goto (tgt := 153) hx hb dX3_look_137 (by decide) ?_
                    exact W.vret hx hb hr (fun t ht hW => ⟨⟨S51, rfl, hst, by rw [ht]; exact hP, va_K.moved hW.alike hK, hD⟩, hS.F ht⟩) hS.2.2 dX3_look_153
                · skip
                  refine lv_aload_n hx hb dX3_look_115 rfl (lv_at hl 0 rfl) ?_
                  refine lv_iload_n hx hb dX3_look_116 rfl (lv_at hl 1 rfl) ?_
                  refine lv_aload_n hx hb dX3_look_117 rfl (lv_at hl 3 rfl) ?_
                  refine zcallv (va_runV (As := [.int n, .ref f]) (rest := []) ⟨hx, hb, hml, hown, hts⟩ (c_X3_lookInHeader l dC dI cy G (zpi S a 8 0) H.size a i r f n (hst.nd hNd) (hst.fa hFa)) (cwV 2 hts gX3_look_X3_lookInHeader rfl rfl rfl (by decide +kernel) ⟨Nat.le_of_ble_eq_true rfl, Nat.le_of_ble_eq_true rfl⟩) (zpreV hK hP hD hN (zrecv3 hK hP hNd.1)) rfl rfl hl.1 rfl (lv_room (Nat.le_of_ble_eq_true rfl)) dX3_look_118 ⟨Nat.le_of_ble_eq_true rfl, Nat.le_of_ble_eq_true rfl⟩) hS hD hA (fun S53 H locs hr52 hP hD hS => ?_)
                  have hst := hst.trans hr52
                  refine lv_goto (tgt := 153) hx hb dX3_look_121 (by decide) ?_
                  exact W.vret hx hb hr (fun t ht hW => ⟨⟨S53, rfl, hst, by rw [ht]; exact hP, va_K.moved hW.alike hK, hD⟩, hS.F ht⟩) hS.2.2 dX3_look_153
              · skip
                refine lv_iload_n hx hb dX3_look_95 rfl (lv_at hl 1 rfl) ?_
                refine lv_iconst (v := 1) hx hb dX3_look_96 (by decide) ?_
                refine lv_icmp_ne (tgt := 107) hx hb dX3_look_97 (by decide) (fun c54 => ?_) (fun c54 => ?_)
                · skip
                  refine lv_aload_n hx hb dX3_look_107 rfl (lv_at hl 0 rfl) ?_
                  refine zget (ci := 3) (C := RX3) (T := TX3) (N := 15) hx hb hts hi3 hown hK hP hNd.1 rfl rfl 6 (by decide) (hts (.fieldLink RX3 36 "LinCluster$Node" "at" "I") (by decide +kernel)) (fun _ h9 => h9) rfl dX3_look_108 ?_
                  refine lv_topi (fun v55 ev55 => ?_)
                  refine lv_iconst (v := 3) hx hb dX3_look_111 (by decide) ?_
                  refine lv_icmp_ne (tgt := 124) hx hb dX3_look_112 (by decide) (fun c56 => ?_) (fun c56 => ?_)
                  · skip
                    refine lv_aload_n hx hb dX3_look_124 rfl (lv_at hl 0 rfl) ?_
                    refine zget (ci := 3) (C := RX3) (T := TX3) (N := 15) hx hb hts hi3 hown hK hP hNd.1 rfl rfl 6 (by decide) (hts (.fieldLink RX3 36 "LinCluster$Node" "at" "I") (by decide +kernel)) (fun _ h9 => h9) rfl dX3_look_125 ?_
                    refine lv_topi (fun v57 ev57 => ?_)
                    refine lv_iconst (v := 4) hx hb dX3_look_128 (by decide) ?_
                    refine lv_icmp_ne (tgt := 140) hx hb dX3_look_129 (by decide) (fun c58 => ?_) (fun c58 => ?_)
                    · skip
                      refine lv_aload_n hx hb dX3_look_140 rfl (lv_at hl 0 rfl) ?_
                      refine zget (ci := 3) (C := RX3) (T := TX3) (N := 15) hx hb hts hi3 hown hK hP hNd.1 rfl rfl 6 (by decide) (hts (.fieldLink RX3 36 "LinCluster$Node" "at" "I") (by decide +kernel)) (fun _ h9 => h9) rfl dX3_look_141 ?_
                      refine lv_topi (fun v59 ev59 => ?_)
                      refine lv_iconst (v := 5) hx hb dX3_look_144 (by decide) ?_
                      refine lv_icmp_ne (tgt := 153) hx hb dX3_look_145 (by decide) (fun c60 => ?_) (fun c60 => ?_)
                      · skip
                        exact W.vret hx hb hr (fun t ht hW => ⟨⟨(zpi S a 8 0), rfl, hst, by rw [ht]; exact hP, va_K.moved hW.alike hK, hD⟩, hS.F ht⟩) hS.2.2 dX3_look_153
                      · skip
                        refine lv_aload_n hx hb dX3_look_148 rfl (lv_at hl 0 rfl) ?_
                        refine lv_iload_n hx hb dX3_look_149 rfl (lv_at hl 1 rfl) ?_
                        refine zcallv (va_runV (As := [.int n]) (rest := []) ⟨hx, hb, hml, hown, hts⟩ (c_X3_take l dC dI cy G (zpi S a 8 0) H.size a i r n (hst.nd hNd) (hst.rf hRf)) (cwV 1 hts gX3_look_X3_take rfl rfl rfl (by decide +kernel) ⟨Nat.le_of_ble_eq_true rfl, Nat.le_of_ble_eq_true rfl⟩) (zpreV hK hP hD hN (zrecv3 hK hP hNd.1)) rfl rfl hl.1 rfl (lv_room (Nat.le_of_ble_eq_true rfl)) dX3_look_150 ⟨Nat.le_of_ble_eq_true rfl, Nat.le_of_ble_eq_true rfl⟩) hS hD hA (fun S62 H locs hr61 hP hD hS => ?_)
                        have hst := hst.trans hr61
                        exact W.vret hx hb hr (fun t ht hW => ⟨⟨S62, rfl, hst, by rw [ht]; exact hP, va_K.moved hW.alike hK, hD⟩, hS.F ht⟩) hS.2.2 dX3_look_153
                    · skip
                      refine lv_aload_n hx hb dX3_look_132 rfl (lv_at hl 0 rfl) ?_
                      refine lv_iload_n hx hb dX3_look_133 rfl (lv_at hl 1 rfl) ?_
                      refine zcallv (va_runV (As := [.int n]) (rest := []) ⟨hx, hb, hml, hown, hts⟩ (c_X3_compare l dC dI cy G (zpi S a 8 0) H.size a i r n (hst.nd hNd) (hst.rf hRf)) (cwV 1 hts gX3_look_X3_compare rfl rfl rfl (by decide +kernel) ⟨Nat.le_of_ble_eq_true rfl, Nat.le_of_ble_eq_true rfl⟩) (zpreV hK hP hD hN (zrecv3 hK hP hNd.1)) rfl rfl hl.1 rfl (lv_room (Nat.le_of_ble_eq_true rfl)) dX3_look_134 ⟨Nat.le_of_ble_eq_true rfl, Nat.le_of_ble_eq_true rfl⟩) hS hD hA (fun S64 H locs hr63 hP hD hS => ?_)
                      have hst := hst.trans hr63
                      refine lv_goto (tgt := 153) hx hb dX3_look_137 (by decide) ?_
                      exact W.vret hx hb hr (fun t ht hW => ⟨⟨S64, rfl, hst, by rw [ht]; exact hP, va_K.moved hW.alike hK, hD⟩, hS.F ht⟩) hS.2.2 dX3_look_153
                  · skip
                    refine lv_aload_n hx hb dX3_look_115 rfl (lv_at hl 0 rfl) ?_
                    refine lv_iload_n hx hb dX3_look_116 rfl (lv_at hl 1 rfl) ?_
                    refine lv_aload_n hx hb dX3_look_117 rfl (lv_at hl 3 rfl) ?_
                    refine zcallv (va_runV (As := [.int n, .ref f]) (rest := []) ⟨hx, hb, hml, hown, hts⟩ (c_X3_lookInHeader l dC dI cy G (zpi S a 8 0) H.size a i r f n (hst.nd hNd) (hst.fa hFa)) (cwV 2 hts gX3_look_X3_lookInHeader rfl rfl rfl (by decide +kernel) ⟨Nat.le_of_ble_eq_true rfl, Nat.le_of_ble_eq_true rfl⟩) (zpreV hK hP hD hN (zrecv3 hK hP hNd.1)) rfl rfl hl.1 rfl (lv_room (Nat.le_of_ble_eq_true rfl)) dX3_look_118 ⟨Nat.le_of_ble_eq_true rfl, Nat.le_of_ble_eq_true rfl⟩) hS hD hA (fun S66 H locs hr65 hP hD hS => ?_)
                    have hst := hst.trans hr65
                    refine lv_goto (tgt := 153) hx hb dX3_look_121 (by decide) ?_
                    exact W.vret hx hb hr (fun t ht hW => ⟨⟨S66, rfl, hst, by rw [ht]; exact hP, va_K.moved hW.alike hK, hD⟩, hS.F ht⟩) hS.2.2 dX3_look_153
                · skip
                  refine lv_aload_n hx hb dX3_look_100 rfl (lv_at hl 0 rfl) ?_
                  refine zcallv (va_runV (As := []) (rest := []) ⟨hx, hb, hml, hown, hts⟩ (c_X3_beginHeader l dC dI cy G (zpi S a 8 0) H.size a i r  (hst.nd hNd)) (cwV 0 hts gX3_look_X3_beginHeader rfl rfl rfl (by decide +kernel) ⟨Nat.le_of_ble_eq_true rfl, Nat.le_of_ble_eq_true rfl⟩) (zpreV hK hP hD hN (zrecv3 hK hP hNd.1)) rfl rfl hl.1 rfl (lv_room (Nat.le_of_ble_eq_true rfl)) dX3_look_101 ⟨Nat.le_of_ble_eq_true rfl, Nat.le_of_ble_eq_true rfl⟩) hS hD hA (fun S68 H locs hr67 hP hD hS => ?_)
                  have hst := hst.trans hr67
                  refine lv_goto (tgt := 153) hx hb dX3_look_104 (by decide) ?_
                  exact W.vret hx hb hr (fun t ht hW => ⟨⟨S68, rfl, hst, by rw [ht]; exact hP, va_K.moved hW.alike hK, hD⟩, hS.F ht⟩) hS.2.2 dX3_look_153
            · skip
              refine lv_aload_n hx hb dX3_look_80 rfl (lv_at hl 0 rfl) ?_
              refine zcallv (va_runV (As := []) (rest := []) ⟨hx, hb, hml, hown, hts⟩ (c_X3_meetBreak l dC dI cy G (zpi S a 8 0) H.size a i r  (hst.nd hNd)) (cwV 0 hts gX3_look_X3_meetBreak rfl rfl rfl (by decide +kernel) ⟨Nat.le_of_ble_eq_true rfl, Nat.le_of_ble_eq_true rfl⟩) (zpreV hK hP hD hN (zrecv3 hK hP hNd.1)) rfl rfl hl.1 rfl (lv_room (Nat.le_of_ble_eq_true rfl)) dX3_look_81 ⟨Nat.le_of_ble_eq_true rfl, Nat.le_of_ble_eq_true rfl⟩) hS hD hA (fun S70 H locs hr69 hP hD hS => ?_)
              have hst := hst.trans hr69
              refine lv_goto (tgt := 153) hx hb dX3_look_84 (by decide) ?_
              exact W.vret hx hb hr (fun t ht hW => ⟨⟨S70, rfl, hst, by rw [ht]; exact hP, va_K.moved hW.alike hK, hD⟩, hS.F ht⟩) hS.2.2 dX3_look_153
        · skip
          refine lv_aload_n hx hb dX3_look_60 rfl (lv_at hl 0 rfl) ?_
          refine lv_iconst (v := 0) hx hb dX3_look_61 (by decide) ?_
          refine zputi (ci := 3) (v := 0) (ty := .int) (C := RX3) (T := TX3) (N := 15) hx hb hts hi3 tyX3 tyX3_ok nmX3 hown hK hP hD hS hNd.1 rfl rfl 6 (by decide) (hts (.fieldLink RX3 36 "LinCluster$Node" "at" "I") (by decide +kernel)) (fun _ h9 => h9) rfl (by decide +kernel) rfl rfl (Nat.le_of_ble_eq_true rfl) rfl dX3_look_62 (fun H locs hP hD hS => ?_)
          have hst := hst.pi (k := 6) (v := 0) hNd.1.2 rfl
          refine lv_goto (tgt := 153) hx hb dX3_look_65 (by decide) ?_
          exact W.vret hx hb hr (fun t ht hW => ⟨⟨(zpi (zpi S a 8 0) a 6 0), rfl, hst, by rw [ht]; exact hP, va_K.moved hW.alike hK, hD⟩, hS.F ht⟩) hS.2.2 dX3_look_153
      · skip
        refine lv_aload_n hx hb dX3_look_37 rfl (lv_at hl 0 rfl) ?_
        refine zget (ci := 3) (C := RX3) (T := TX3) (N := 15) hx hb hts hi3 hown hK hP hNd.1 rfl rfl 8 (by decide) (hts (.fieldLink RX3 43 "LinCluster$Node" "ones" "I") (by decide +kernel)) (fun _ h9 => h9) rfl dX3_look_38 ?_
        refine lv_topi (fun v71 ev71 => ?_)
        refine lv_iconst (v := 1) hx hb dX3_look_41 (by decide) ?_
        refine lv_iadd hx hb dX3_look_42 ?_
        refine lv_topi (fun v72 ev72 => ?_)
        refine lv_goto (tgt := 47) hx hb dX3_look_43 (by decide) ?_
        refine zputi (ci := 3) (v := v72) (ty := .int) (C := RX3) (T := TX3) (N := 15) hx hb hts hi3 tyX3 tyX3_ok nmX3 hown hK hP hD hS hNd.1 rfl rfl 8 (by decide) (hts (.fieldLink RX3 43 "LinCluster$Node" "ones" "I") (by decide +kernel)) (fun _ h9 => h9) rfl (by decide +kernel) rfl rfl (Nat.le_of_ble_eq_true rfl) rfl dX3_look_47 (fun H locs hP hD hS => ?_)
        have hst := hst.pi (k := 8) (v := v72) hNd.1.2 rfl
        refine lv_aload_n hx hb dX3_look_50 rfl (lv_at hl 0 rfl) ?_
        refine zget (ci := 3) (C := RX3) (T := TX3) (N := 15) hx hb hts hi3 hown hK hP hNd.1 rfl rfl 8 (by decide) (hts (.fieldLink RX3 43 "LinCluster$Node" "ones" "I") (by decide +kernel)) (fun _ h9 => h9) rfl dX3_look_51 ?_
        refine lv_topi (fun v73 ev73 => ?_)
        refine lv_sipush (v := 3000) hx hb dX3_look_54 (by decide) ?_
        refine lv_icmp_lt (tgt := 68) hx hb dX3_look_57 (by decide) (fun c74 => ?_) (fun c74 => ?_)
        · skip
          refine lv_iload_n hx hb dX3_look_68 rfl (lv_at hl 1 rfl) ?_
          refine lv_if_ne (tgt := 87) hx hb dX3_look_69 (by decide) (fun c75 => ?_) (fun c75 => ?_)
          · skip
            refine lv_aload_n hx hb dX3_look_87 rfl (lv_at hl 0 rfl) ?_
            refine zget (ci := 3) (C := RX3) (T := TX3) (N := 15) hx hb hts hi3 hown hK hP hNd.1 rfl rfl 6 (by decide) (hts (.fieldLink RX3 36 "LinCluster$Node" "at" "I") (by decide +kernel)) (fun _ h9 => h9) rfl dX3_look_88 ?_
            refine lv_topi (fun v76 ev76 => ?_)
            refine lv_iconst (v := 2) hx hb dX3_look_91 (by decide) ?_
            refine lv_icmp_ne (tgt := 107) hx hb dX3_look_92 (by decide) (fun c77 => ?_) (fun c77 => ?_)
            · skip
              refine lv_aload_n hx hb dX3_look_107 rfl (lv_at hl 0 rfl) ?_
              refine zget (ci := 3) (C := RX3) (T := TX3) (N := 15) hx hb hts hi3 hown hK hP hNd.1 rfl rfl 6 (by decide) (hts (.fieldLink RX3 36 "LinCluster$Node" "at" "I") (by decide +kernel)) (fun _ h9 => h9) rfl dX3_look_108 ?_
              refine lv_topi (fun v78 ev78 => ?_)
              refine lv_iconst (v := 3) hx hb dX3_look_111 (by decide) ?_
              refine lv_icmp_ne (tgt := 124) hx hb dX3_look_112 (by decide) (fun c79 => ?_) (fun c79 => ?_)
              · skip
                refine lv_aload_n hx hb dX3_look_124 rfl (lv_at hl 0 rfl) ?_
                refine zget (ci := 3) (C := RX3) (T := TX3) (N := 15) hx hb hts hi3 hown hK hP hNd.1 rfl rfl 6 (by decide) (hts (.fieldLink RX3 36 "LinCluster$Node" "at" "I") (by decide +kernel)) (fun _ h9 => h9) rfl dX3_look_125 ?_
                refine lv_topi (fun v80 ev80 => ?_)
                refine lv_iconst (v := 4) hx hb dX3_look_128 (by decide) ?_
                refine lv_icmp_ne (tgt := 140) hx hb dX3_look_129 (by decide) (fun c81 => ?_) (fun c81 => ?_)
                · skip
                  refine lv_aload_n hx hb dX3_look_140 rfl (lv_at hl 0 rfl) ?_
                  refine zget (ci := 3) (C := RX3) (T := TX3) (N := 15) hx hb hts hi3 hown hK hP hNd.1 rfl rfl 6 (by decide) (hts (.fieldLink RX3 36 "LinCluster$Node" "at" "I") (by decide +kernel)) (fun _ h9 => h9) rfl dX3_look_141 ?_
                  refine lv_topi (fun v82 ev82 => ?_)
                  refine lv_iconst (v := 5) hx hb dX3_look_144 (by decide) ?_
                  refine lv_icmp_ne (tgt := 153) hx hb dX3_look_145 (by decide) (fun c83 => ?_) (fun c83 => ?_)
                  · skip
                    exact W.vret hx hb hr (fun t ht hW => ⟨⟨(zpi S a 8 v72), rfl, hst, by rw [ht]; exact hP, va_K.moved hW.alike hK, hD⟩, hS.F ht⟩) hS.2.2 dX3_look_153
                  · skip
                    refine lv_aload_n hx hb dX3_look_148 rfl (lv_at hl 0 rfl) ?_
                    refine lv_iload_n hx hb dX3_look_149 rfl (lv_at hl 1 rfl) ?_
                    refine zcallv (va_runV (As := [.int n]) (rest := []) ⟨hx, hb, hml, hown, hts⟩ (c_X3_take l dC dI cy G (zpi S a 8 v72) H.size a i r n (hst.nd hNd) (hst.rf hRf)) (cwV 1 hts gX3_look_X3_take rfl rfl rfl (by decide +kernel) ⟨Nat.le_of_ble_eq_true rfl, Nat.le_of_ble_eq_true rfl⟩) (zpreV hK hP hD hN (zrecv3 hK hP hNd.1)) rfl rfl hl.1 rfl (lv_room (Nat.le_of_ble_eq_true rfl)) dX3_look_150 ⟨Nat.le_of_ble_eq_true rfl, Nat.le_of_ble_eq_true rfl⟩) hS hD hA (fun S85 H locs hr84 hP hD hS => ?_)
                    have hst := hst.trans hr84
                    exact W.vret hx hb hr (fun t ht hW => ⟨⟨S85, rfl, hst, by rw [ht]; exact hP, va_K.moved hW.alike hK, hD⟩, hS.F ht⟩) hS.2.2 dX3_look_153
                · skip
                  refine lv_aload_n hx hb dX3_look_132 rfl (lv_at hl 0 rfl) ?_
                  refine lv_iload_n hx hb dX3_look_133 rfl (lv_at hl 1 rfl) ?_
                  refine zcallv (va_runV (As := [.int n]) (rest := []) ⟨hx, hb, hml, hown, hts⟩ (c_X3_compare l dC dI cy G (zpi S a 8 v72) H.size a i r n (hst.nd hNd) (hst.rf hRf)) (cwV 1 hts gX3_look_X3_compare rfl rfl rfl (by decide +kernel) ⟨Nat.le_of_ble_eq_true rfl, Nat.le_of_ble_eq_true rfl⟩) (zpreV hK hP hD hN (zrecv3 hK hP hNd.1)) rfl rfl hl.1 rfl (lv_room (Nat.le_of_ble_eq_true rfl)) dX3_look_134 ⟨Nat.le_of_ble_eq_true rfl, Nat.le_of_ble_eq_true rfl⟩) hS hD hA (fun S87 H locs hr86 hP hD hS => ?_)
                  have hst := hst.trans hr86
                  refine lv_goto (tgt := 153) hx hb dX3_look_137 (by decide) ?_
                  exact W.vret hx hb hr (fun t ht hW => ⟨⟨S87, rfl, hst, by rw [ht]; exact hP, va_K.moved hW.alike hK, hD⟩, hS.F ht⟩) hS.2.2 dX3_look_153
              · skip
                refine lv_aload_n hx hb dX3_look_115 rfl (lv_at hl 0 rfl) ?_
                refine lv_iload_n hx hb dX3_look_116 rfl (lv_at hl 1 rfl) ?_
                refine lv_aload_n hx hb dX3_look_117 rfl (lv_at hl 3 rfl) ?_
                refine zcallv (va_runV (As := [.int n, .ref f]) (rest := []) ⟨hx, hb, hml, hown, hts⟩ (c_X3_lookInHeader l dC dI cy G (zpi S a 8 v72) H.size a i r f n (hst.nd hNd) (hst.fa hFa)) (cwV 2 hts gX3_look_X3_lookInHeader rfl rfl rfl (by decide +kernel) ⟨Nat.le_of_ble_eq_true rfl, Nat.le_of_ble_eq_true rfl⟩) (zpreV hK hP hD hN (zrecv3 hK hP hNd.1)) rfl rfl hl.1 rfl (lv_room (Nat.le_of_ble_eq_true rfl)) dX3_look_118 ⟨Nat.le_of_ble_eq_true rfl, Nat.le_of_ble_eq_true rfl⟩) hS hD hA (fun S89 H locs hr88 hP hD hS => ?_)
                have hst := hst.trans hr88
                refine lv_goto (tgt := 153) hx hb dX3_look_121 (by decide) ?_
                exact W.vret hx hb hr (fun t ht hW => ⟨⟨S89, rfl, hst, by rw [ht]; exact hP, va_K.moved hW.alike hK, hD⟩, hS.F ht⟩) hS.2.2 dX3_look_153
            · skip
              refine lv_iload_n hx hb dX3_look_95 rfl (lv_at hl 1 rfl) ?_
              refine lv_iconst (v := 1) hx hb dX3_look_96 (by decide) ?_
              refine lv_icmp_ne (tgt := 107) hx hb dX3_look_97 (by decide) (fun c90 => ?_) (fun c90 => ?_)
              · skip
                refine lv_aload_n hx hb dX3_look_107 rfl (lv_at hl 0 rfl) ?_
                refine zget (ci := 3) (C := RX3) (T := TX3) (N := 15) hx hb hts hi3 hown hK hP hNd.1 rfl rfl 6 (by decide) (hts (.fieldLink RX3 36 "LinCluster$Node" "at" "I") (by decide +kernel)) (fun _ h9 => h9) rfl dX3_look_108 ?_
                refine lv_topi (fun v91 ev91 => ?_)
                refine lv_iconst (v := 3) hx hb dX3_look_111 (by decide) ?_
                refine lv_icmp_ne (tgt := 124) hx hb dX3_look_112 (by decide) (fun c92 => ?_) (fun c92 => ?_)
                · skip
                  refine lv_aload_n hx hb dX3_look_124 rfl (lv_at hl 0 rfl) ?_
                  refine zget (ci := 3) (C := RX3) (T := TX3) (N := 15) hx hb hts hi3 hown hK hP hNd.1 rfl rfl 6 (by decide) (hts (.fieldLink RX3 36 "LinCluster$Node" "at" "I") (by decide +kernel)) (fun _ h9 => h9) rfl dX3_look_125 ?_
                  refine lv_topi (fun v93 ev93 => ?_)
                  refine lv_iconst (v := 4) hx hb dX3_look_128 (by decide) ?_
                  refine lv_icmp_ne (tgt := 140) hx hb dX3_look_129 (by decide) (fun c94 => ?_) (fun c94 => ?_)
                  · skip
                    refine lv_aload_n hx hb dX3_look_140 rfl (lv_at hl 0 rfl) ?_
                    refine zget (ci := 3) (C := RX3) (T := TX3) (N := 15) hx hb hts hi3 hown hK hP hNd.1 rfl rfl 6 (by decide) (hts (.fieldLink RX3 36 "LinCluster$Node" "at" "I") (by decide +kernel)) (fun _ h9 => h9) rfl dX3_look_141 ?_
                    refine lv_topi (fun v95 ev95 => ?_)
                    refine lv_iconst (v := 5) hx hb dX3_look_144 (by decide) ?_
                    refine lv_icmp_ne (tgt := 153) hx hb dX3_look_145 (by decide) (fun c96 => ?_) (fun c96 => ?_)
                    · skip
                      exact W.vret hx hb hr (fun t ht hW => ⟨⟨(zpi S a 8 v72), rfl, hst, by rw [ht]; exact hP, va_K.moved hW.alike hK, hD⟩, hS.F ht⟩) hS.2.2 dX3_look_153
                    · skip
                      refine lv_aload_n hx hb dX3_look_148 rfl (lv_at hl 0 rfl) ?_
                      refine lv_iload_n hx hb dX3_look_149 rfl (lv_at hl 1 rfl) ?_
                      refine zcallv (va_runV (As := [.int n]) (rest := []) ⟨hx, hb, hml, hown, hts⟩ (c_X3_take l dC dI cy G (zpi S a 8 v72) H.size a i r n (hst.nd hNd) (hst.rf hRf)) (cwV 1 hts gX3_look_X3_take rfl rfl rfl (by decide +kernel) ⟨Nat.le_of_ble_eq_true rfl, Nat.le_of_ble_eq_true rfl⟩) (zpreV hK hP hD hN (zrecv3 hK hP hNd.1)) rfl rfl hl.1 rfl (lv_room (Nat.le_of_ble_eq_true rfl)) dX3_look_150 ⟨Nat.le_of_ble_eq_true rfl, Nat.le_of_ble_eq_true rfl⟩) hS hD hA (fun S98 H locs hr97 hP hD hS => ?_)
                      have hst := hst.trans hr97
                      exact W.vret hx hb hr (fun t ht hW => ⟨⟨S98, rfl, hst, by rw [ht]; exact hP, va_K.moved hW.alike hK, hD⟩, hS.F ht⟩) hS.2.2 dX3_look_153
                  · skip
                    refine lv_aload_n hx hb dX3_look_132 rfl (lv_at hl 0 rfl) ?_
                    refine lv_iload_n hx hb dX3_look_133 rfl (lv_at hl 1 rfl) ?_
                    refine zcallv (va_runV (As := [.int n]) (rest := []) ⟨hx, hb, hml, hown, hts⟩ (c_X3_compare l dC dI cy G (zpi S a 8 v72) H.size a i r n (hst.nd hNd) (hst.rf hRf)) (cwV 1 hts gX3_look_X3_compare rfl rfl rfl (by decide +kernel) ⟨Nat.le_of_ble_eq_true rfl, Nat.le_of_ble_eq_true rfl⟩) (zpreV hK hP hD hN (zrecv3 hK hP hNd.1)) rfl rfl hl.1 rfl (lv_room (Nat.le_of_ble_eq_true rfl)) dX3_look_134 ⟨Nat.le_of_ble_eq_true rfl, Nat.le_of_ble_eq_true rfl⟩) hS hD hA (fun S100 H locs hr99 hP hD hS => ?_)
                    have hst := hst.trans hr99
                    refine lv_goto (tgt := 153) hx hb dX3_look_137 (by decide) ?_
                    exact W.vret hx hb hr (fun t ht hW => ⟨⟨S100, rfl, hst, by rw [ht]; exact hP, va_K.moved hW.alike hK, hD⟩, hS.F ht⟩) hS.2.2 dX3_look_153
                · skip
                  refine lv_aload_n hx hb dX3_look_115 rfl (lv_at hl 0 rfl) ?_
                  refine lv_iload_n hx hb dX3_look_116 rfl (lv_at hl 1 rfl) ?_
                  refine lv_aload_n hx hb dX3_look_117 rfl (lv_at hl 3 rfl) ?_
                  refine zcallv (va_runV (As := [.int n, .ref f]) (rest := []) ⟨hx, hb, hml, hown, hts⟩ (c_X3_lookInHeader l dC dI cy G (zpi S a 8 v72) H.size a i r f n (hst.nd hNd) (hst.fa hFa)) (cwV 2 hts gX3_look_X3_lookInHeader rfl rfl rfl (by decide +kernel) ⟨Nat.le_of_ble_eq_true rfl, Nat.le_of_ble_eq_true rfl⟩) (zpreV hK hP hD hN (zrecv3 hK hP hNd.1)) rfl rfl hl.1 rfl (lv_room (Nat.le_of_ble_eq_true rfl)) dX3_look_118 ⟨Nat.le_of_ble_eq_true rfl, Nat.le_of_ble_eq_true rfl⟩) hS hD hA (fun S102 H locs hr101 hP hD hS => ?_)
                  have hst := hst.trans hr101
                  refine lv_goto (tgt := 153) hx hb dX3_look_121 (by decide) ?_
                  exact W.vret hx hb hr (fun t ht hW => ⟨⟨S102, rfl, hst, by rw [ht]; exact hP, va_K.moved hW.alike hK, hD⟩, hS.F ht⟩) hS.2.2 dX3_look_153
              · skip
                refine lv_aload_n hx hb dX3_look_100 rfl (lv_at hl 0 rfl) ?_
                refine zcallv (va_runV (As := []) (rest := []) ⟨hx, hb, hml, hown, hts⟩ (c_X3_beginHeader l dC dI cy G (zpi S a 8 v72) H.size a i r  (hst.nd hNd)) (cwV 0 hts gX3_look_X3_beginHeader rfl rfl rfl (by decide +kernel) ⟨Nat.le_of_ble_eq_true rfl, Nat.le_of_ble_eq_true rfl⟩) (zpreV hK hP hD hN (zrecv3 hK hP hNd.1)) rfl rfl hl.1 rfl (lv_room (Nat.le_of_ble_eq_true rfl)) dX3_look_101 ⟨Nat.le_of_ble_eq_true rfl, Nat.le_of_ble_eq_true rfl⟩) hS hD hA (fun S104 H locs hr103 hP hD hS => ?_)
                have hst := hst.trans hr103
                refine lv_goto (tgt := 153) hx hb dX3_look_104 (by decide) ?_
                exact W.vret hx hb hr (fun t ht hW => ⟨⟨S104, rfl, hst, by rw [ht]; exact hP, va_K.moved hW.alike hK, hD⟩, hS.F ht⟩) hS.2.2 dX3_look_153
          · skip
            refine lv_iload_n hx hb dX3_look_72 rfl (lv_at hl 2 rfl) ?_
            refine lv_iconst (v := 1) hx hb dX3_look_73 (by decide) ?_
            refine lv_iadd hx hb dX3_look_74 ?_
            refine lv_topi (fun v105 ev105 => ?_)
            refine lv_bipush (v := 11) hx hb dX3_look_75 (by decide) ?_
            refine lv_icmp_ne (tgt := 87) hx hb dX3_look_77 (by decide) (fun c106 => ?_) (fun c106 => ?_)
            · skip
              refine lv_aload_n hx hb dX3_look_87 rfl (lv_at hl 0 rfl) ?_
              refine zget (ci := 3) (C := RX3) (T := TX3) (N := 15) hx hb hts hi3 hown hK hP hNd.1 rfl rfl 6 (by decide) (hts (.fieldLink RX3 36 "LinCluster$Node" "at" "I") (by decide +kernel)) (fun _ h9 => h9) rfl dX3_look_88 ?_
              refine lv_topi (fun v107 ev107 => ?_)
              refine lv_iconst (v := 2) hx hb dX3_look_91 (by decide) ?_
              refine lv_icmp_ne (tgt := 107) hx hb dX3_look_92 (by decide) (fun c108 => ?_) (fun c108 => ?_)
              · skip
                refine lv_aload_n hx hb dX3_look_107 rfl (lv_at hl 0 rfl) ?_
                refine zget (ci := 3) (C := RX3) (T := TX3) (N := 15) hx hb hts hi3 hown hK hP hNd.1 rfl rfl 6 (by decide) (hts (.fieldLink RX3 36 "LinCluster$Node" "at" "I") (by decide +kernel)) (fun _ h9 => h9) rfl dX3_look_108 ?_
                refine lv_topi (fun v109 ev109 => ?_)
                refine lv_iconst (v := 3) hx hb dX3_look_111 (by decide) ?_
                refine lv_icmp_ne (tgt := 124) hx hb dX3_look_112 (by decide) (fun c110 => ?_) (fun c110 => ?_)
                · skip
                  refine lv_aload_n hx hb dX3_look_124 rfl (lv_at hl 0 rfl) ?_
                  refine zget (ci := 3) (C := RX3) (T := TX3) (N := 15) hx hb hts hi3 hown hK hP hNd.1 rfl rfl 6 (by decide) (hts (.fieldLink RX3 36 "LinCluster$Node" "at" "I") (by decide +kernel)) (fun _ h9 => h9) rfl dX3_look_125 ?_
                  refine lv_topi (fun v111 ev111 => ?_)
                  refine lv_iconst (v := 4) hx hb dX3_look_128 (by decide) ?_
                  refine lv_icmp_ne (tgt := 140) hx hb dX3_look_129 (by decide) (fun c112 => ?_) (fun c112 => ?_)
                  · skip
                    refine lv_aload_n hx hb dX3_look_140 rfl (lv_at hl 0 rfl) ?_
                    refine zget (ci := 3) (C := RX3) (T := TX3) (N := 15) hx hb hts hi3 hown hK hP hNd.1 rfl rfl 6 (by decide) (hts (.fieldLink RX3 36 "LinCluster$Node" "at" "I") (by decide +kernel)) (fun _ h9 => h9) rfl dX3_look_141 ?_
                    refine lv_topi (fun v113 ev113 => ?_)
                    refine lv_iconst (v := 5) hx hb dX3_look_144 (by decide) ?_
                    refine lv_icmp_ne (tgt := 153) hx hb dX3_look_145 (by decide) (fun c114 => ?_) (fun c114 => ?_)
                    · skip
                      exact W.vret hx hb hr (fun t ht hW => ⟨⟨(zpi S a 8 v72), rfl, hst, by rw [ht]; exact hP, va_K.moved hW.alike hK, hD⟩, hS.F ht⟩) hS.2.2 dX3_look_153
                    · skip
                      refine lv_aload_n hx hb dX3_look_148 rfl (lv_at hl 0 rfl) ?_
                      refine lv_iload_n hx hb dX3_look_149 rfl (lv_at hl 1 rfl) ?_
                      refine zcallv (va_runV (As := [.int n]) (rest := []) ⟨hx, hb, hml, hown, hts⟩ (c_X3_take l dC dI cy G (zpi S a 8 v72) H.size a i r n (hst.nd hNd) (hst.rf hRf)) (cwV 1 hts gX3_look_X3_take rfl rfl rfl (by decide +kernel) ⟨Nat.le_of_ble_eq_true rfl, Nat.le_of_ble_eq_true rfl⟩) (zpreV hK hP hD hN (zrecv3 hK hP hNd.1)) rfl rfl hl.1 rfl (lv_room (Nat.le_of_ble_eq_true rfl)) dX3_look_150 ⟨Nat.le_of_ble_eq_true rfl, Nat.le_of_ble_eq_true rfl⟩) hS hD hA (fun S116 H locs hr115 hP hD hS => ?_)
                      have hst := hst.trans hr115
                      exact W.vret hx hb hr (fun t ht hW => ⟨⟨S116, rfl, hst, by rw [ht]; exact hP, va_K.moved hW.alike hK, hD⟩, hS.F ht⟩) hS.2.2 dX3_look_153
                  · skip
                    refine lv_aload_n hx hb dX3_look_132 rfl (lv_at hl 0 rfl) ?_
                    refine lv_iload_n hx hb dX3_look_133 rfl (lv_at hl 1 rfl) ?_
                    refine zcallv (va_runV (As := [.int n]) (rest := []) ⟨hx, hb, hml, hown, hts⟩ (c_X3_compare l dC dI cy G (zpi S a 8 v72) H.size a i r n (hst.nd hNd) (hst.rf hRf)) (cwV 1 hts gX3_look_X3_compare rfl rfl rfl (by decide +kernel) ⟨Nat.le_of_ble_eq_true rfl, Nat.le_of_ble_eq_true rfl⟩) (zpreV hK hP hD hN (zrecv3 hK hP hNd.1)) rfl rfl hl.1 rfl (lv_room (Nat.le_of_ble_eq_true rfl)) dX3_look_134 ⟨Nat.le_of_ble_eq_true rfl, Nat.le_of_ble_eq_true rfl⟩) hS hD hA (fun S118 H locs hr117 hP hD hS => ?_)
                    have hst := hst.trans hr117
                    refine lv_goto (tgt := 153) hx hb dX3_look_137 (by decide) ?_
                    exact W.vret hx hb hr (fun t ht hW => ⟨⟨S118, rfl, hst, by rw [ht]; exact hP, va_K.moved hW.alike hK, hD⟩, hS.F ht⟩) hS.2.2 dX3_look_153
                · skip
                  refine lv_aload_n hx hb dX3_look_115 rfl (lv_at hl 0 rfl) ?_
                  refine lv_iload_n hx hb dX3_look_116 rfl (lv_at hl 1 rfl) ?_
                  refine lv_aload_n hx hb dX3_look_117 rfl (lv_at hl 3 rfl) ?_
                  refine zcallv (va_runV (As := [.int n, .ref f]) (rest := []) ⟨hx, hb, hml, hown, hts⟩ (c_X3_lookInHeader l dC dI cy G (zpi S a 8 v72) H.size a i r f n (hst.nd hNd) (hst.fa hFa)) (cwV 2 hts gX3_look_X3_lookInHeader rfl rfl rfl (by decide +kernel) ⟨Nat.le_of_ble_eq_true rfl, Nat.le_of_ble_eq_true rfl⟩) (zpreV hK hP hD hN (zrecv3 hK hP hNd.1)) rfl rfl hl.1 rfl (lv_room (Nat.le_of_ble_eq_true rfl)) dX3_look_118 ⟨Nat.le_of_ble_eq_true rfl, Nat.le_of_ble_eq_true rfl⟩) hS hD hA (fun S120 H locs hr119 hP hD hS => ?_)
                  have hst := hst.trans hr119
                  refine lv_goto (tgt := 153) hx hb dX3_look_121 (by decide) ?_
                  exact W.vret hx hb hr (fun t ht hW => ⟨⟨S120, rfl, hst, by rw [ht]; exact hP, va_K.moved hW.alike hK, hD⟩, hS.F ht⟩) hS.2.2 dX3_look_153
              · skip
                refine lv_iload_n hx hb dX3_look_95 rfl (lv_at hl 1 rfl) ?_
                refine lv_iconst (v := 1) hx hb dX3_look_96 (by decide) ?_
                refine lv_icmp_ne (tgt := 107) hx hb dX3_look_97 (by decide) (fun c121 => ?_) (fun c121 => ?_)
                · skip
                  refine lv_aload_n hx hb dX3_look_107 rfl (lv_at hl 0 rfl) ?_
                  refine zget (ci := 3) (C := RX3) (T := TX3) (N := 15) hx hb hts hi3 hown hK hP hNd.1 rfl rfl 6 (by decide) (hts (.fieldLink RX3 36 "LinCluster$Node" "at" "I") (by decide +kernel)) (fun _ h9 => h9) rfl dX3_look_108 ?_
                  refine lv_topi (fun v122 ev122 => ?_)
                  refine lv_iconst (v := 3) hx hb dX3_look_111 (by decide) ?_
                  refine lv_icmp_ne (tgt := 124) hx hb dX3_look_112 (by decide) (fun c123 => ?_) (fun c123 => ?_)
                  · skip
                    refine lv_aload_n hx hb dX3_look_124 rfl (lv_at hl 0 rfl) ?_
                    refine zget (ci := 3) (C := RX3) (T := TX3) (N := 15) hx hb hts hi3 hown hK hP hNd.1 rfl rfl 6 (by decide) (hts (.fieldLink RX3 36 "LinCluster$Node" "at" "I") (by decide +kernel)) (fun _ h9 => h9) rfl dX3_look_125 ?_
                    refine lv_topi (fun v124 ev124 => ?_)
                    refine lv_iconst (v := 4) hx hb dX3_look_128 (by decide) ?_
                    refine lv_icmp_ne (tgt := 140) hx hb dX3_look_129 (by decide) (fun c125 => ?_) (fun c125 => ?_)
                    · skip
                      refine lv_aload_n hx hb dX3_look_140 rfl (lv_at hl 0 rfl) ?_
                      refine zget (ci := 3) (C := RX3) (T := TX3) (N := 15) hx hb hts hi3 hown hK hP hNd.1 rfl rfl 6 (by decide) (hts (.fieldLink RX3 36 "LinCluster$Node" "at" "I") (by decide +kernel)) (fun _ h9 => h9) rfl dX3_look_141 ?_
                      refine lv_topi (fun v126 ev126 => ?_)
                      refine lv_iconst (v := 5) hx hb dX3_look_144 (by decide) ?_
                      refine lv_icmp_ne (tgt := 153) hx hb dX3_look_145 (by decide) (fun c127 => ?_) (fun c127 => ?_)
                      · skip
                        exact W.vret hx hb hr (fun t ht hW => ⟨⟨(zpi S a 8 v72), rfl, hst, by rw [ht]; exact hP, va_K.moved hW.alike hK, hD⟩, hS.F ht⟩) hS.2.2 dX3_look_153
                      · skip
                        refine lv_aload_n hx hb dX3_look_148 rfl (lv_at hl 0 rfl) ?_
                        refine lv_iload_n hx hb dX3_look_149 rfl (lv_at hl 1 rfl) ?_
                        refine zcallv (va_runV (As := [.int n]) (rest := []) ⟨hx, hb, hml, hown, hts⟩ (c_X3_take l dC dI cy G (zpi S a 8 v72) H.size a i r n (hst.nd hNd) (hst.rf hRf)) (cwV 1 hts gX3_look_X3_take rfl rfl rfl (by decide +kernel) ⟨Nat.le_of_ble_eq_true rfl, Nat.le_of_ble_eq_true rfl⟩) (zpreV hK hP hD hN (zrecv3 hK hP hNd.1)) rfl rfl hl.1 rfl (lv_room (Nat.le_of_ble_eq_true rfl)) dX3_look_150 ⟨Nat.le_of_ble_eq_true rfl, Nat.le_of_ble_eq_true rfl⟩) hS hD hA (fun S129 H locs hr128 hP hD hS => ?_)
                        have hst := hst.trans hr128
                        exact W.vret hx hb hr (fun t ht hW => ⟨⟨S129, rfl, hst, by rw [ht]; exact hP, va_K.moved hW.alike hK, hD⟩, hS.F ht⟩) hS.2.2 dX3_look_153
                    · skip
                      refine lv_aload_n hx hb dX3_look_132 rfl (lv_at hl 0 rfl) ?_
                      refine lv_iload_n hx hb dX3_look_133 rfl (lv_at hl 1 rfl) ?_
                      refine zcallv (va_runV (As := [.int n]) (rest := []) ⟨hx, hb, hml, hown, hts⟩ (c_X3_compare l dC dI cy G (zpi S a 8 v72) H.size a i r n (hst.nd hNd) (hst.rf hRf)) (cwV 1 hts gX3_look_X3_compare rfl rfl rfl (by decide +kernel) ⟨Nat.le_of_ble_eq_true rfl, Nat.le_of_ble_eq_true rfl⟩) (zpreV hK hP hD hN (zrecv3 hK hP hNd.1)) rfl rfl hl.1 rfl (lv_room (Nat.le_of_ble_eq_true rfl)) dX3_look_134 ⟨Nat.le_of_ble_eq_true rfl, Nat.le_of_ble_eq_true rfl⟩) hS hD hA (fun S131 H locs hr130 hP hD hS => ?_)
                      have hst := hst.trans hr130
                      refine lv_goto (tgt := 153) hx hb dX3_look_137 (by decide) ?_
                      exact W.vret hx hb hr (fun t ht hW => ⟨⟨S131, rfl, hst, by rw [ht]; exact hP, va_K.moved hW.alike hK, hD⟩, hS.F ht⟩) hS.2.2 dX3_look_153
                  · skip
                    refine lv_aload_n hx hb dX3_look_115 rfl (lv_at hl 0 rfl) ?_
                    refine lv_iload_n hx hb dX3_look_116 rfl (lv_at hl 1 rfl) ?_
                    refine lv_aload_n hx hb dX3_look_117 rfl (lv_at hl 3 rfl) ?_
                    refine zcallv (va_runV (As := [.int n, .ref f]) (rest := []) ⟨hx, hb, hml, hown, hts⟩ (c_X3_lookInHeader l dC dI cy G (zpi S a 8 v72) H.size a i r f n (hst.nd hNd) (hst.fa hFa)) (cwV 2 hts gX3_look_X3_lookInHeader rfl rfl rfl (by decide +kernel) ⟨Nat.le_of_ble_eq_true rfl, Nat.le_of_ble_eq_true rfl⟩) (zpreV hK hP hD hN (zrecv3 hK hP hNd.1)) rfl rfl hl.1 rfl (lv_room (Nat.le_of_ble_eq_true rfl)) dX3_look_118 ⟨Nat.le_of_ble_eq_true rfl, Nat.le_of_ble_eq_true rfl⟩) hS hD hA (fun S133 H locs hr132 hP hD hS => ?_)
                    have hst := hst.trans hr132
                    refine lv_goto (tgt := 153) hx hb dX3_look_121 (by decide) ?_
                    exact W.vret hx hb hr (fun t ht hW => ⟨⟨S133, rfl, hst, by rw [ht]; exact hP, va_K.moved hW.alike hK, hD⟩, hS.F ht⟩) hS.2.2 dX3_look_153
                · skip
                  refine lv_aload_n hx hb dX3_look_100 rfl (lv_at hl 0 rfl) ?_
                  refine zcallv (va_runV (As := []) (rest := []) ⟨hx, hb, hml, hown, hts⟩ (c_X3_beginHeader l dC dI cy G (zpi S a 8 v72) H.size a i r  (hst.nd hNd)) (cwV 0 hts gX3_look_X3_beginHeader rfl rfl rfl (by decide +kernel) ⟨Nat.le_of_ble_eq_true rfl, Nat.le_of_ble_eq_true rfl⟩) (zpreV hK hP hD hN (zrecv3 hK hP hNd.1)) rfl rfl hl.1 rfl (lv_room (Nat.le_of_ble_eq_true rfl)) dX3_look_101 ⟨Nat.le_of_ble_eq_true rfl, Nat.le_of_ble_eq_true rfl⟩) hS hD hA (fun S135 H locs hr134 hP hD hS => ?_)
                  have hst := hst.trans hr134
                  refine lv_goto (tgt := 153) hx hb dX3_look_104 (by decide) ?_
                  exact W.vret hx hb hr (fun t ht hW => ⟨⟨S135, rfl, hst, by rw [ht]; exact hP, va_K.moved hW.alike hK, hD⟩, hS.F ht⟩) hS.2.2 dX3_look_153
            · skip
              refine lv_aload_n hx hb dX3_look_80 rfl (lv_at hl 0 rfl) ?_
              refine zcallv (va_runV (As := []) (rest := []) ⟨hx, hb, hml, hown, hts⟩ (c_X3_meetBreak l dC dI cy G (zpi S a 8 v72) H.size a i r  (hst.nd hNd)) (cwV 0 hts gX3_look_X3_meetBreak rfl rfl rfl (by decide +kernel) ⟨Nat.le_of_ble_eq_true rfl, Nat.le_of_ble_eq_true rfl⟩) (zpreV hK hP hD hN (zrecv3 hK hP hNd.1)) rfl rfl hl.1 rfl (lv_room (Nat.le_of_ble_eq_true rfl)) dX3_look_81 ⟨Nat.le_of_ble_eq_true rfl, Nat.le_of_ble_eq_true rfl⟩) hS hD hA (fun S137 H locs hr136 hP hD hS => ?_)
              have hst := hst.trans hr136
              refine lv_goto (tgt := 153) hx hb dX3_look_84 (by decide) ?_
              exact W.vret hx hb hr (fun t ht hW => ⟨⟨S137, rfl, hst, by rw [ht]; exact hP, va_K.moved hW.alike hK, hD⟩, hS.F ht⟩) hS.2.2 dX3_look_153
        · skip
          refine lv_aload_n hx hb dX3_look_60 rfl (lv_at hl 0 rfl) ?_
          refine lv_iconst (v := 0) hx hb dX3_look_61 (by decide) ?_
          refine zputi (ci := 3) (v := 0) (ty := .int) (C := RX3) (T := TX3) (N := 15) hx hb hts hi3 tyX3 tyX3_ok nmX3 hown hK hP hD hS hNd.1 rfl rfl 6 (by decide) (hts (.fieldLink RX3 36 "LinCluster$Node" "at" "I") (by decide +kernel)) (fun _ h9 => h9) rfl (by decide +kernel) rfl rfl (Nat.le_of_ble_eq_true rfl) rfl dX3_look_62 (fun H locs hP hD hS => ?_)
          have hst := hst.pi (k := 6) (v := 0) hNd.1.2 rfl
          refine lv_goto (tgt := 153) hx hb dX3_look_65 (by decide) ?_
          exact W.vret hx hb hr (fun t ht hW => ⟨⟨(zpi (zpi S a 8 v72) a 6 0), rfl, hst, by rw [ht]; exact hP, va_K.moved hW.alike hK, hD⟩, hS.F ht⟩) hS.2.2 dX3_look_153
    · skip
      refine lv_aload_n hx hb dX3_look_24 rfl (lv_at hl 0 rfl) ?_
      refine lv_iload_n hx hb dX3_look_25 rfl (lv_at hl 1 rfl) ?_
      refine lv_iload_n hx hb dX3_look_26 rfl (lv_at hl 2 rfl) ?_
      refine zcallv (va_runV (As := [.int n, .int k]) (rest := []) ⟨hx, hb, hml, hown, hts⟩ (c_X3_lookAsleep l dC dI cy G S s.heap.size a i r n k (hst.nd hNd)) (cwV 2 hts gX3_look_X3_lookAsleep rfl rfl rfl (by decide +kernel) ⟨Nat.le_of_ble_eq_true rfl, Nat.le_of_ble_eq_true rfl⟩) (zpreV hK hP hD hN (zrecv3 hK hP hNd.1)) rfl rfl hl.1 rfl (lv_room (Nat.le_of_ble_eq_true rfl)) dX3_look_27 ⟨Nat.le_of_ble_eq_true rfl, Nat.le_of_ble_eq_true rfl⟩) hS hD hA (fun S139 H locs hr138 hP hD hS => ?_)
      have hst := hst.trans hr138
      exact W.vret hx hb hr (fun t ht hW => ⟨⟨S139, rfl, hst, by rw [ht]; exact hP, va_K.moved hW.alike hK, hD⟩, hS.F ht⟩) hS.2.2 dX3_look_30
  · skip
    refine lv_aload_n hx hb dX3_look_7 rfl (lv_at hl 0 rfl) ?_
    refine lv_dup hx hb dX3_look_8 rfl ?_
    refine zget (ci := 3) (C := RX3) (T := TX3) (N := 15) hx hb hts hi3 hown hK hP hNd.1 rfl rfl 9 (by decide) (hts (.fieldLink RX3 46 "LinCluster$Node" "wakingBits" "I") (by decide +kernel)) (fun _ h9 => h9) rfl dX3_look_9 ?_
    refine lv_topi (fun v140 ev140 => ?_)
    refine lv_iconst (v := 1) hx hb dX3_look_12 (by decide) ?_
    refine lv_isub hx hb dX3_look_13 ?_
    refine lv_topi (fun v141 ev141 => ?_)
    refine zputi (ci := 3) (v := v141) (ty := .int) (C := RX3) (T := TX3) (N := 15) hx hb hts hi3 tyX3 tyX3_ok nmX3 hown hK hP hD hS hNd.1 rfl rfl 9 (by decide) (hts (.fieldLink RX3 46 "LinCluster$Node" "wakingBits" "I") (by decide +kernel)) (fun _ h9 => h9) rfl (by decide +kernel) rfl rfl (Nat.le_of_ble_eq_true rfl) rfl dX3_look_14 (fun H locs hP hD hS => ?_)
    have hst := hst.pi (k := 9) (v := v141) hNd.1.2 rfl
    refine lv_aload_n hx hb dX3_look_17 rfl (lv_at hl 0 rfl) ?_
    refine zget (ci := 3) (C := RX3) (T := TX3) (N := 15) hx hb hts hi3 hown hK hP hNd.1 rfl rfl 6 (by decide) (hts (.fieldLink RX3 36 "LinCluster$Node" "at" "I") (by decide +kernel)) (fun _ h9 => h9) rfl dX3_look_18 ?_
    refine lv_topi (fun v142 ev142 => ?_)
    refine lv_if_ne (tgt := 31) hx hb dX3_look_21 (by decide) (fun c143 => ?_) (fun c143 => ?_)
    · skip
      refine lv_aload_n hx hb dX3_look_31 rfl (lv_at hl 0 rfl) ?_
      refine lv_iload_n hx hb dX3_look_32 rfl (lv_at hl 1 rfl) ?_
      refine lv_iconst (v := 1) hx hb dX3_look_33 (by decide) ?_
      refine lv_icmp_ne (tgt := 46) hx hb dX3_look_34 (by decide) (fun c144 => ?_) (fun c144 => ?_)
      · skip
        refine lv_iconst (v := 0) hx hb dX3_look_46 (by decide) ?_
        refine zputi (ci := 3) (v := 0) (ty := .int) (C := RX3) (T := TX3) (N := 15) hx hb hts hi3 tyX3 tyX3_ok nmX3 hown hK hP hD hS hNd.1 rfl rfl 8 (by decide) (hts (.fieldLink RX3 43 "LinCluster$Node" "ones" "I") (by decide +kernel)) (fun _ h9 => h9) rfl (by decide +kernel) rfl rfl (Nat.le_of_ble_eq_true rfl) rfl dX3_look_47 (fun H locs hP hD hS => ?_)
        have hst := hst.pi (k := 8) (v := 0) hNd.1.2 rfl
        refine lv_aload_n hx hb dX3_look_50 rfl (lv_at hl 0 rfl) ?_
        refine zget (ci := 3) (C := RX3) (T := TX3) (N := 15) hx hb hts hi3 hown hK hP hNd.1 rfl rfl 8 (by decide) (hts (.fieldLink RX3 43 "LinCluster$Node" "ones" "I") (by decide +kernel)) (fun _ h9 => h9) rfl dX3_look_51 ?_
        refine lv_topi (fun v145 ev145 => ?_)
        refine lv_sipush (v := 3000) hx hb dX3_look_54 (by decide) ?_
        refine lv_icmp_lt (tgt := 68) hx hb dX3_look_57 (by decide) (fun c146 => ?_) (fun c146 => ?_)
        · skip
          refine lv_iload_n hx hb dX3_look_68 rfl (lv_at hl 1 rfl) ?_
          refine lv_if_ne (tgt := 87) hx hb dX3_look_69 (by decide) (fun c147 => ?_) (fun c147 => ?_)
          · skip
            refine lv_aload_n hx hb dX3_look_87 rfl (lv_at hl 0 rfl) ?_
            refine zget (ci := 3) (C := RX3) (T := TX3) (N := 15) hx hb hts hi3 hown hK hP hNd.1 rfl rfl 6 (by decide) (hts (.fieldLink RX3 36 "LinCluster$Node" "at" "I") (by decide +kernel)) (fun _ h9 => h9) rfl dX3_look_88 ?_
            refine lv_topi (fun v148 ev148 => ?_)
            refine lv_iconst (v := 2) hx hb dX3_look_91 (by decide) ?_
            refine lv_icmp_ne (tgt := 107) hx hb dX3_look_92 (by decide) (fun c149 => ?_) (fun c149 => ?_)
            · skip
              refine lv_aload_n hx hb dX3_look_107 rfl (lv_at hl 0 rfl) ?_
              refine zget (ci := 3) (C := RX3) (T := TX3) (N := 15) hx hb hts hi3 hown hK hP hNd.1 rfl rfl 6 (by decide) (hts (.fieldLink RX3 36 "LinCluster$Node" "at" "I") (by decide +kernel)) (fun _ h9 => h9) rfl dX3_look_108 ?_
              refine lv_topi (fun v150 ev150 => ?_)
              refine lv_iconst (v := 3) hx hb dX3_look_111 (by decide) ?_
              refine lv_icmp_ne (tgt := 124) hx hb dX3_look_112 (by decide) (fun c151 => ?_) (fun c151 => ?_)
              · skip
                refine lv_aload_n hx hb dX3_look_124 rfl (lv_at hl 0 rfl) ?_
                refine zget (ci := 3) (C := RX3) (T := TX3) (N := 15) hx hb hts hi3 hown hK hP hNd.1 rfl rfl 6 (by decide) (hts (.fieldLink RX3 36 "LinCluster$Node" "at" "I") (by decide +kernel)) (fun _ h9 => h9) rfl dX3_look_125 ?_
                refine lv_topi (fun v152 ev152 => ?_)
                refine lv_iconst (v := 4) hx hb dX3_look_128 (by decide) ?_
                refine lv_icmp_ne (tgt := 140) hx hb dX3_look_129 (by decide) (fun c153 => ?_) (fun c153 => ?_)
                · skip
                  refine lv_aload_n hx hb dX3_look_140 rfl (lv_at hl 0 rfl) ?_
                  refine zget (ci := 3) (C := RX3) (T := TX3) (N := 15) hx hb hts hi3 hown hK hP hNd.1 rfl rfl 6 (by decide) (hts (.fieldLink RX3 36 "LinCluster$Node" "at" "I") (by decide +kernel)) (fun _ h9 => h9) rfl dX3_look_141 ?_
                  refine lv_topi (fun v154 ev154 => ?_)
                  refine lv_iconst (v := 5) hx hb dX3_look_144 (by decide) ?_
                  refine lv_icmp_ne (tgt := 153) hx hb dX3_look_145 (by decide) (fun c155 => ?_) (fun c155 => ?_)
                  · skip
                    exact W.vret hx hb hr (fun t ht hW => ⟨⟨(zpi (zpi S a 9 v141) a 8 0), rfl, hst, by rw [ht]; exact hP, va_K.moved hW.alike hK, hD⟩, hS.F ht⟩) hS.2.2 dX3_look_153
                  · skip
                    refine lv_aload_n hx hb dX3_look_148 rfl (lv_at hl 0 rfl) ?_
                    refine lv_iload_n hx hb dX3_look_149 rfl (lv_at hl 1 rfl) ?_
                    refine zcallv (va_runV (As := [.int n]) (rest := []) ⟨hx, hb, hml, hown, hts⟩ (c_X3_take l dC dI cy G (zpi (zpi S a 9 v141) a 8 0) H.size a i r n (hst.nd hNd) (hst.rf hRf)) (cwV 1 hts gX3_look_X3_take rfl rfl rfl (by decide +kernel) ⟨Nat.le_of_ble_eq_true rfl, Nat.le_of_ble_eq_true rfl⟩) (zpreV hK hP hD hN (zrecv3 hK hP hNd.1)) rfl rfl hl.1 rfl (lv_room (Nat.le_of_ble_eq_true rfl)) dX3_look_150 ⟨Nat.le_of_ble_eq_true rfl, Nat.le_of_ble_eq_true rfl⟩) hS hD hA (fun S157 H locs hr156 hP hD hS => ?_)
                    have hst := hst.trans hr156
                    exact W.vret hx hb hr (fun t ht hW => ⟨⟨S157, rfl, hst, by rw [ht]; exact hP, va_K.moved hW.alike hK, hD⟩, hS.F ht⟩) hS.2.2 dX3_look_153
                · skip
                  refine lv_aload_n hx hb dX3_look_132 rfl (lv_at hl 0 rfl) ?_
                  refine lv_iload_n hx hb dX3_look_133 rfl (lv_at hl 1 rfl) ?_
                  refine zcallv (va_runV (As := [.int n]) (rest := []) ⟨hx, hb, hml, hown, hts⟩ (c_X3_compare l dC dI cy G (zpi (zpi S a 9 v141) a 8 0) H.size a i r n (hst.nd hNd) (hst.rf hRf)) (cwV 1 hts gX3_look_X3_compare rfl rfl rfl (by decide +kernel) ⟨Nat.le_of_ble_eq_true rfl, Nat.le_of_ble_eq_true rfl⟩) (zpreV hK hP hD hN (zrecv3 hK hP hNd.1)) rfl rfl hl.1 rfl (lv_room (Nat.le_of_ble_eq_true rfl)) dX3_look_134 ⟨Nat.le_of_ble_eq_true rfl, Nat.le_of_ble_eq_true rfl⟩) hS hD hA (fun S159 H locs hr158 hP hD hS => ?_)
                  have hst := hst.trans hr158
                  refine lv_goto (tgt := 153) hx hb dX3_look_137 (by decide) ?_
                  exact W.vret hx hb hr (fun t ht hW => ⟨⟨S159, rfl, hst, by rw [ht]; exact hP, va_K.moved hW.alike hK, hD⟩, hS.F ht⟩) hS.2.2 dX3_look_153
              · skip
                refine lv_aload_n hx hb dX3_look_115 rfl (lv_at hl 0 rfl) ?_
                refine lv_iload_n hx hb dX3_look_116 rfl (lv_at hl 1 rfl) ?_
                refine lv_aload_n hx hb dX3_look_117 rfl (lv_at hl 3 rfl) ?_
                refine zcallv (va_runV (As := [.int n, .ref f]) (rest := []) ⟨hx, hb, hml, hown, hts⟩ (c_X3_lookInHeader l dC dI cy G (zpi (zpi S a 9 v141) a 8 0) H.size a i r f n (hst.nd hNd) (hst.fa hFa)) (cwV 2 hts gX3_look_X3_lookInHeader rfl rfl rfl (by decide +kernel) ⟨Nat.le_of_ble_eq_true rfl, Nat.le_of_ble_eq_true rfl⟩) (zpreV hK hP hD hN (zrecv3 hK hP hNd.1)) rfl rfl hl.1 rfl (lv_room (Nat.le_of_ble_eq_true rfl)) dX3_look_118 ⟨Nat.le_of_ble_eq_true rfl, Nat.le_of_ble_eq_true rfl⟩) hS hD hA (fun S161 H locs hr160 hP hD hS => ?_)
                have hst := hst.trans hr160
                refine lv_goto (tgt := 153) hx hb dX3_look_121 (by decide) ?_
                exact W.vret hx hb hr (fun t ht hW => ⟨⟨S161, rfl, hst, by rw [ht]; exact hP, va_K.moved hW.alike hK, hD⟩, hS.F ht⟩) hS.2.2 dX3_look_153
            · skip
              refine lv_iload_n hx hb dX3_look_95 rfl (lv_at hl 1 rfl) ?_
              refine lv_iconst (v := 1) hx hb dX3_look_96 (by decide) ?_
              refine lv_icmp_ne (tgt := 107) hx hb dX3_look_97 (by decide) (fun c162 => ?_) (fun c162 => ?_)
              · skip
                refine lv_aload_n hx hb dX3_look_107 rfl (lv_at hl 0 rfl) ?_
                refine zget (ci := 3) (C := RX3) (T := TX3) (N := 15) hx hb hts hi3 hown hK hP hNd.1 rfl rfl 6 (by decide) (hts (.fieldLink RX3 36 "LinCluster$Node" "at" "I") (by decide +kernel)) (fun _ h9 => h9) rfl dX3_look_108 ?_
                refine lv_topi (fun v163 ev163 => ?_)
                refine lv_iconst (v := 3) hx hb dX3_look_111 (by decide) ?_
                refine lv_icmp_ne (tgt := 124) hx hb dX3_look_112 (by decide) (fun c164 => ?_) (fun c164 => ?_)
                · skip
                  refine lv_aload_n hx hb dX3_look_124 rfl (lv_at hl 0 rfl) ?_
                  refine zget (ci := 3) (C := RX3) (T := TX3) (N := 15) hx hb hts hi3 hown hK hP hNd.1 rfl rfl 6 (by decide) (hts (.fieldLink RX3 36 "LinCluster$Node" "at" "I") (by decide +kernel)) (fun _ h9 => h9) rfl dX3_look_125 ?_
                  refine lv_topi (fun v165 ev165 => ?_)
                  refine lv_iconst (v := 4) hx hb dX3_look_128 (by decide) ?_
                  refine lv_icmp_ne (tgt := 140) hx hb dX3_look_129 (by decide) (fun c166 => ?_) (fun c166 => ?_)
                  · skip
                    refine lv_aload_n hx hb dX3_look_140 rfl (lv_at hl 0 rfl) ?_
                    refine zget (ci := 3) (C := RX3) (T := TX3) (N := 15) hx hb hts hi3 hown hK hP hNd.1 rfl rfl 6 (by decide) (hts (.fieldLink RX3 36 "LinCluster$Node" "at" "I") (by decide +kernel)) (fun _ h9 => h9) rfl dX3_look_141 ?_
                    refine lv_topi (fun v167 ev167 => ?_)
                    refine lv_iconst (v := 5) hx hb dX3_look_144 (by decide) ?_
                    refine lv_icmp_ne (tgt := 153) hx hb dX3_look_145 (by decide) (fun c168 => ?_) (fun c168 => ?_)
                    · skip
                      exact W.vret hx hb hr (fun t ht hW => ⟨⟨(zpi (zpi S a 9 v141) a 8 0), rfl, hst, by rw [ht]; exact hP, va_K.moved hW.alike hK, hD⟩, hS.F ht⟩) hS.2.2 dX3_look_153
                    · skip
                      refine lv_aload_n hx hb dX3_look_148 rfl (lv_at hl 0 rfl) ?_
                      refine lv_iload_n hx hb dX3_look_149 rfl (lv_at hl 1 rfl) ?_
                      refine zcallv (va_runV (As := [.int n]) (rest := []) ⟨hx, hb, hml, hown, hts⟩ (c_X3_take l dC dI cy G (zpi (zpi S a 9 v141) a 8 0) H.size a i r n (hst.nd hNd) (hst.rf hRf)) (cwV 1 hts gX3_look_X3_take rfl rfl rfl (by decide +kernel) ⟨Nat.le_of_ble_eq_true rfl, Nat.le_of_ble_eq_true rfl⟩) (zpreV hK hP hD hN (zrecv3 hK hP hNd.1)) rfl rfl hl.1 rfl (lv_room (Nat.le_of_ble_eq_true rfl)) dX3_look_150 ⟨Nat.le_of_ble_eq_true rfl, Nat.le_of_ble_eq_true rfl⟩) hS hD hA (fun S170 H locs hr169 hP hD hS => ?_)
                      have hst := hst.trans hr169
                      exact W.vret hx hb hr (fun t ht hW => ⟨⟨S170, rfl, hst, by rw [ht]; exact hP, va_K.moved hW.alike hK, hD⟩, hS.F ht⟩) hS.2.2 dX3_look_153
                  · skip
                    refine lv_aload_n hx hb dX3_look_132 rfl (lv_at hl 0 rfl) ?_
                    refine lv_iload_n hx hb dX3_look_133 rfl (lv_at hl 1 rfl) ?_
                    refine zcallv (va_runV (As := [.int n]) (rest := []) ⟨hx, hb, hml, hown, hts⟩ (c_X3_compare l dC dI cy G (zpi (zpi S a 9 v141) a 8 0) H.size a i r n (hst.nd hNd) (hst.rf hRf)) (cwV 1 hts gX3_look_X3_compare rfl rfl rfl (by decide +kernel) ⟨Nat.le_of_ble_eq_true rfl, Nat.le_of_ble_eq_true rfl⟩) (zpreV hK hP hD hN (zrecv3 hK hP hNd.1)) rfl rfl hl.1 rfl (lv_room (Nat.le_of_ble_eq_true rfl)) dX3_look_134 ⟨Nat.le_of_ble_eq_true rfl, Nat.le_of_ble_eq_true rfl⟩) hS hD hA (fun S172 H locs hr171 hP hD hS => ?_)
                    have hst := hst.trans hr171
                    refine lv_goto (tgt := 153) hx hb dX3_look_137 (by decide) ?_
                    exact W.vret hx hb hr (fun t ht hW => ⟨⟨S172, rfl, hst, by rw [ht]; exact hP, va_K.moved hW.alike hK, hD⟩, hS.F ht⟩) hS.2.2 dX3_look_153
                · skip
                  refine lv_aload_n hx hb dX3_look_115 rfl (lv_at hl 0 rfl) ?_
                  refine lv_iload_n hx hb dX3_look_116 rfl (lv_at hl 1 rfl) ?_
                  refine lv_aload_n hx hb dX3_look_117 rfl (lv_at hl 3 rfl) ?_
                  refine zcallv (va_runV (As := [.int n, .ref f]) (rest := []) ⟨hx, hb, hml, hown, hts⟩ (c_X3_lookInHeader l dC dI cy G (zpi (zpi S a 9 v141) a 8 0) H.size a i r f n (hst.nd hNd) (hst.fa hFa)) (cwV 2 hts gX3_look_X3_lookInHeader rfl rfl rfl (by decide +kernel) ⟨Nat.le_of_ble_eq_true rfl, Nat.le_of_ble_eq_true rfl⟩) (zpreV hK hP hD hN (zrecv3 hK hP hNd.1)) rfl rfl hl.1 rfl (lv_room (Nat.le_of_ble_eq_true rfl)) dX3_look_118 ⟨Nat.le_of_ble_eq_true rfl, Nat.le_of_ble_eq_true rfl⟩) hS hD hA (fun S174 H locs hr173 hP hD hS => ?_)
                  have hst := hst.trans hr173
                  refine lv_goto (tgt := 153) hx hb dX3_look_121 (by decide) ?_
                  exact W.vret hx hb hr (fun t ht hW => ⟨⟨S174, rfl, hst, by rw [ht]; exact hP, va_K.moved hW.alike hK, hD⟩, hS.F ht⟩) hS.2.2 dX3_look_153
              · skip
                refine lv_aload_n hx hb dX3_look_100 rfl (lv_at hl 0 rfl) ?_
                refine zcallv (va_runV (As := []) (rest := []) ⟨hx, hb, hml, hown, hts⟩ (c_X3_beginHeader l dC dI cy G (zpi (zpi S a 9 v141) a 8 0) H.size a i r  (hst.nd hNd)) (cwV 0 hts gX3_look_X3_beginHeader rfl rfl rfl (by decide +kernel) ⟨Nat.le_of_ble_eq_true rfl, Nat.le_of_ble_eq_true rfl⟩) (zpreV hK hP hD hN (zrecv3 hK hP hNd.1)) rfl rfl hl.1 rfl (lv_room (Nat.le_of_ble_eq_true rfl)) dX3_look_101 ⟨Nat.le_of_ble_eq_true rfl, Nat.le_of_ble_eq_true rfl⟩) hS hD hA (fun S176 H locs hr175 hP hD hS => ?_)
                have hst := hst.trans hr175
                refine lv_goto (tgt := 153) hx hb dX3_look_104 (by decide) ?_
                exact W.vret hx hb hr (fun t ht hW => ⟨⟨S176, rfl, hst, by rw [ht]; exact hP, va_K.moved hW.alike hK, hD⟩, hS.F ht⟩) hS.2.2 dX3_look_153
          · skip
            refine lv_iload_n hx hb dX3_look_72 rfl (lv_at hl 2 rfl) ?_
            refine lv_iconst (v := 1) hx hb dX3_look_73 (by decide) ?_
            refine lv_iadd hx hb dX3_look_74 ?_
            refine lv_topi (fun v177 ev177 => ?_)
            refine lv_bipush (v := 11) hx hb dX3_look_75 (by decide) ?_
            refine lv_icmp_ne (tgt := 87) hx hb dX3_look_77 (by decide) (fun c178 => ?_) (fun c178 => ?_)
            · skip
              refine lv_aload_n hx hb dX3_look_87 rfl (lv_at hl 0 rfl) ?_
              refine zget (ci := 3) (C := RX3) (T := TX3) (N := 15) hx hb hts hi3 hown hK hP hNd.1 rfl rfl 6 (by decide) (hts (.fieldLink RX3 36 "LinCluster$Node" "at" "I") (by decide +kernel)) (fun _ h9 => h9) rfl dX3_look_88 ?_
              refine lv_topi (fun v179 ev179 => ?_)
              refine lv_iconst (v := 2) hx hb dX3_look_91 (by decide) ?_
              refine lv_icmp_ne (tgt := 107) hx hb dX3_look_92 (by decide) (fun c180 => ?_) (fun c180 => ?_)
              · skip
                refine lv_aload_n hx hb dX3_look_107 rfl (lv_at hl 0 rfl) ?_
                refine zget (ci := 3) (C := RX3) (T := TX3) (N := 15) hx hb hts hi3 hown hK hP hNd.1 rfl rfl 6 (by decide) (hts (.fieldLink RX3 36 "LinCluster$Node" "at" "I") (by decide +kernel)) (fun _ h9 => h9) rfl dX3_look_108 ?_
                refine lv_topi (fun v181 ev181 => ?_)
                refine lv_iconst (v := 3) hx hb dX3_look_111 (by decide) ?_
                refine lv_icmp_ne (tgt := 124) hx hb dX3_look_112 (by decide) (fun c182 => ?_) (fun c182 => ?_)
                · skip
                  refine lv_aload_n hx hb dX3_look_124 rfl (lv_at hl 0 rfl) ?_
                  refine zget (ci := 3) (C := RX3) (T := TX3) (N := 15) hx hb hts hi3 hown hK hP hNd.1 rfl rfl 6 (by decide) (hts (.fieldLink RX3 36 "LinCluster$Node" "at" "I") (by decide +kernel)) (fun _ h9 => h9) rfl dX3_look_125 ?_
                  refine lv_topi (fun v183 ev183 => ?_)
                  refine lv_iconst (v := 4) hx hb dX3_look_128 (by decide) ?_
                  refine lv_icmp_ne (tgt := 140) hx hb dX3_look_129 (by decide) (fun c184 => ?_) (fun c184 => ?_)
                  · skip
                    refine lv_aload_n hx hb dX3_look_140 rfl (lv_at hl 0 rfl) ?_
                    refine zget (ci := 3) (C := RX3) (T := TX3) (N := 15) hx hb hts hi3 hown hK hP hNd.1 rfl rfl 6 (by decide) (hts (.fieldLink RX3 36 "LinCluster$Node" "at" "I") (by decide +kernel)) (fun _ h9 => h9) rfl dX3_look_141 ?_
                    refine lv_topi (fun v185 ev185 => ?_)
                    refine lv_iconst (v := 5) hx hb dX3_look_144 (by decide) ?_
                    refine lv_icmp_ne (tgt := 153) hx hb dX3_look_145 (by decide) (fun c186 => ?_) (fun c186 => ?_)
                    · skip
                      exact W.vret hx hb hr (fun t ht hW => ⟨⟨(zpi (zpi S a 9 v141) a 8 0), rfl, hst, by rw [ht]; exact hP, va_K.moved hW.alike hK, hD⟩, hS.F ht⟩) hS.2.2 dX3_look_153
                    · skip
                      refine lv_aload_n hx hb dX3_look_148 rfl (lv_at hl 0 rfl) ?_
                      refine lv_iload_n hx hb dX3_look_149 rfl (lv_at hl 1 rfl) ?_
                      refine zcallv (va_runV (As := [.int n]) (rest := []) ⟨hx, hb, hml, hown, hts⟩ (c_X3_take l dC dI cy G (zpi (zpi S a 9 v141) a 8 0) H.size a i r n (hst.nd hNd) (hst.rf hRf)) (cwV 1 hts gX3_look_X3_take rfl rfl rfl (by decide +kernel) ⟨Nat.le_of_ble_eq_true rfl, Nat.le_of_ble_eq_true rfl⟩) (zpreV hK hP hD hN (zrecv3 hK hP hNd.1)) rfl rfl hl.1 rfl (lv_room (Nat.le_of_ble_eq_true rfl)) dX3_look_150 ⟨Nat.le_of_ble_eq_true rfl, Nat.le_of_ble_eq_true rfl⟩) hS hD hA (fun S188 H locs hr187 hP hD hS => ?_)
                      have hst := hst.trans hr187
                      exact W.vret hx hb hr (fun t ht hW => ⟨⟨S188, rfl, hst, by rw [ht]; exact hP, va_K.moved hW.alike hK, hD⟩, hS.F ht⟩) hS.2.2 dX3_look_153
                  · skip
                    refine lv_aload_n hx hb dX3_look_132 rfl (lv_at hl 0 rfl) ?_
                    refine lv_iload_n hx hb dX3_look_133 rfl (lv_at hl 1 rfl) ?_
                    refine zcallv (va_runV (As := [.int n]) (rest := []) ⟨hx, hb, hml, hown, hts⟩ (c_X3_compare l dC dI cy G (zpi (zpi S a 9 v141) a 8 0) H.size a i r n (hst.nd hNd) (hst.rf hRf)) (cwV 1 hts gX3_look_X3_compare rfl rfl rfl (by decide +kernel) ⟨Nat.le_of_ble_eq_true rfl, Nat.le_of_ble_eq_true rfl⟩) (zpreV hK hP hD hN (zrecv3 hK hP hNd.1)) rfl rfl hl.1 rfl (lv_room (Nat.le_of_ble_eq_true rfl)) dX3_look_134 ⟨Nat.le_of_ble_eq_true rfl, Nat.le_of_ble_eq_true rfl⟩) hS hD hA (fun S190 H locs hr189 hP hD hS => ?_)
                    have hst := hst.trans hr189
                    refine lv_goto (tgt := 153) hx hb dX3_look_137 (by decide) ?_
                    exact W.vret hx hb hr (fun t ht hW => ⟨⟨S190, rfl, hst, by rw [ht]; exact hP, va_K.moved hW.alike hK, hD⟩, hS.F ht⟩) hS.2.2 dX3_look_153
                · skip
                  refine lv_aload_n hx hb dX3_look_115 rfl (lv_at hl 0 rfl) ?_
                  refine lv_iload_n hx hb dX3_look_116 rfl (lv_at hl 1 rfl) ?_
                  refine lv_aload_n hx hb dX3_look_117 rfl (lv_at hl 3 rfl) ?_
                  refine zcallv (va_runV (As := [.int n, .ref f]) (rest := []) ⟨hx, hb, hml, hown, hts⟩ (c_X3_lookInHeader l dC dI cy G (zpi (zpi S a 9 v141) a 8 0) H.size a i r f n (hst.nd hNd) (hst.fa hFa)) (cwV 2 hts gX3_look_X3_lookInHeader rfl rfl rfl (by decide +kernel) ⟨Nat.le_of_ble_eq_true rfl, Nat.le_of_ble_eq_true rfl⟩) (zpreV hK hP hD hN (zrecv3 hK hP hNd.1)) rfl rfl hl.1 rfl (lv_room (Nat.le_of_ble_eq_true rfl)) dX3_look_118 ⟨Nat.le_of_ble_eq_true rfl, Nat.le_of_ble_eq_true rfl⟩) hS hD hA (fun S192 H locs hr191 hP hD hS => ?_)
                  have hst := hst.trans hr191
                  refine lv_goto (tgt := 153) hx hb dX3_look_121 (by decide) ?_
                  exact W.vret hx hb hr (fun t ht hW => ⟨⟨S192, rfl, hst, by rw [ht]; exact hP, va_K.moved hW.alike hK, hD⟩, hS.F ht⟩) hS.2.2 dX3_look_153
              · skip
                refine lv_iload_n hx hb dX3_look_95 rfl (lv_at hl 1 rfl) ?_
                refine lv_iconst (v := 1) hx hb dX3_look_96 (by decide) ?_
                refine lv_icmp_ne (tgt := 107) hx hb dX3_look_97 (by decide) (fun c193 => ?_) (fun c193 => ?_)
                · skip
                  refine lv_aload_n hx hb dX3_look_107 rfl (lv_at hl 0 rfl) ?_
                  refine zget (ci := 3) (C := RX3) (T := TX3) (N := 15) hx hb hts hi3 hown hK hP hNd.1 rfl rfl 6 (by decide) (hts (.fieldLink RX3 36 "LinCluster$Node" "at" "I") (by decide +kernel)) (fun _ h9 => h9) rfl dX3_look_108 ?_
                  refine lv_topi (fun v194 ev194 => ?_)
                  refine lv_iconst (v := 3) hx hb dX3_look_111 (by decide) ?_
                  refine lv_icmp_ne (tgt := 124) hx hb dX3_look_112 (by decide) (fun c195 => ?_) (fun c195 => ?_)
                  · skip
                    refine lv_aload_n hx hb dX3_look_124 rfl (lv_at hl 0 rfl) ?_
                    refine zget (ci := 3) (C := RX3) (T := TX3) (N := 15) hx hb hts hi3 hown hK hP hNd.1 rfl rfl 6 (by decide) (hts (.fieldLink RX3 36 "LinCluster$Node" "at" "I") (by decide +kernel)) (fun _ h9 => h9) rfl dX3_look_125 ?_
                    refine lv_topi (fun v196 ev196 => ?_)
                    refine lv_iconst (v := 4) hx hb dX3_look_128 (by decide) ?_
                    refine lv_icmp_ne (tgt := 140) hx hb dX3_look_129 (by decide) (fun c197 => ?_) (fun c197 => ?_)
                    · skip
                      refine lv_aload_n hx hb dX3_look_140 rfl (lv_at hl 0 rfl) ?_
                      refine zget (ci := 3) (C := RX3) (T := TX3) (N := 15) hx hb hts hi3 hown hK hP hNd.1 rfl rfl 6 (by decide) (hts (.fieldLink RX3 36 "LinCluster$Node" "at" "I") (by decide +kernel)) (fun _ h9 => h9) rfl dX3_look_141 ?_
                      refine lv_topi (fun v198 ev198 => ?_)
                      refine lv_iconst (v := 5) hx hb dX3_look_144 (by decide) ?_
                      refine lv_icmp_ne (tgt := 153) hx hb dX3_look_145 (by decide) (fun c199 => ?_) (fun c199 => ?_)
                      · skip
                        exact W.vret hx hb hr (fun t ht hW => ⟨⟨(zpi (zpi S a 9 v141) a 8 0), rfl, hst, by rw [ht]; exact hP, va_K.moved hW.alike hK, hD⟩, hS.F ht⟩) hS.2.2 dX3_look_153
                      · skip
                        refine lv_aload_n hx hb dX3_look_148 rfl (lv_at hl 0 rfl) ?_
                        refine lv_iload_n hx hb dX3_look_149 rfl (lv_at hl 1 rfl) ?_
                        refine zcallv (va_runV (As := [.int n]) (rest := []) ⟨hx, hb, hml, hown, hts⟩ (c_X3_take l dC dI cy G (zpi (zpi S a 9 v141) a 8 0) H.size a i r n (hst.nd hNd) (hst.rf hRf)) (cwV 1 hts gX3_look_X3_take rfl rfl rfl (by decide +kernel) ⟨Nat.le_of_ble_eq_true rfl, Nat.le_of_ble_eq_true rfl⟩) (zpreV hK hP hD hN (zrecv3 hK hP hNd.1)) rfl rfl hl.1 rfl (lv_room (Nat.le_of_ble_eq_true rfl)) dX3_look_150 ⟨Nat.le_of_ble_eq_true rfl, Nat.le_of_ble_eq_true rfl⟩) hS hD hA (fun S201 H locs hr200 hP hD hS => ?_)
                        have hst := hst.trans hr200
                        exact W.vret hx hb hr (fun t ht hW => ⟨⟨S201, rfl, hst, by rw [ht]; exact hP, va_K.moved hW.alike hK, hD⟩, hS.F ht⟩) hS.2.2 dX3_look_153
                    · skip
                      refine lv_aload_n hx hb dX3_look_132 rfl (lv_at hl 0 rfl) ?_
                      refine lv_iload_n hx hb dX3_look_133 rfl (lv_at hl 1 rfl) ?_
                      refine zcallv (va_runV (As := [.int n]) (rest := []) ⟨hx, hb, hml, hown, hts⟩ (c_X3_compare l dC dI cy G (zpi (zpi S a 9 v141) a 8 0) H.size a i r n (hst.nd hNd) (hst.rf hRf)) (cwV 1 hts gX3_look_X3_compare rfl rfl rfl (by decide +kernel) ⟨Nat.le_of_ble_eq_true rfl, Nat.le_of_ble_eq_true rfl⟩) (zpreV hK hP hD hN (zrecv3 hK hP hNd.1)) rfl rfl hl.1 rfl (lv_room (Nat.le_of_ble_eq_true rfl)) dX3_look_134 ⟨Nat.le_of_ble_eq_true rfl, Nat.le_of_ble_eq_true rfl⟩) hS hD hA (fun S203 H locs hr202 hP hD hS => ?_)
                      have hst := hst.trans hr202
                      refine lv_goto (tgt := 153) hx hb dX3_look_137 (by decide) ?_
                      exact W.vret hx hb hr (fun t ht hW => ⟨⟨S203, rfl, hst, by rw [ht]; exact hP, va_K.moved hW.alike hK, hD⟩, hS.F ht⟩) hS.2.2 dX3_look_153
                  · skip
                    refine lv_aload_n hx hb dX3_look_115 rfl (lv_at hl 0 rfl) ?_
                    refine lv_iload_n hx hb dX3_look_116 rfl (lv_at hl 1 rfl) ?_
                    refine lv_aload_n hx hb dX3_look_117 rfl (lv_at hl 3 rfl) ?_
                    refine zcallv (va_runV (As := [.int n, .ref f]) (rest := []) ⟨hx, hb, hml, hown, hts⟩ (c_X3_lookInHeader l dC dI cy G (zpi (zpi S a 9 v141) a 8 0) H.size a i r f n (hst.nd hNd) (hst.fa hFa)) (cwV 2 hts gX3_look_X3_lookInHeader rfl rfl rfl (by decide +kernel) ⟨Nat.le_of_ble_eq_true rfl, Nat.le_of_ble_eq_true rfl⟩) (zpreV hK hP hD hN (zrecv3 hK hP hNd.1)) rfl rfl hl.1 rfl (lv_room (Nat.le_of_ble_eq_true rfl)) dX3_look_118 ⟨Nat.le_of_ble_eq_true rfl, Nat.le_of_ble_eq_true rfl⟩) hS hD hA (fun S205 H locs hr204 hP hD hS => ?_)
                    have hst := hst.trans hr204
                    refine lv_goto (tgt := 153) hx hb dX3_look_121 (by decide) ?_
                    exact W.vret hx hb hr (fun t ht hW => ⟨⟨S205, rfl, hst, by rw [ht]; exact hP, va_K.moved hW.alike hK, hD⟩, hS.F ht⟩) hS.2.2 dX3_look_153
                · skip
                  refine lv_aload_n hx hb dX3_look_100 rfl (lv_at hl 0 rfl) ?_
                  refine zcallv (va_runV (As := []) (rest := []) ⟨hx, hb, hml, hown, hts⟩ (c_X3_beginHeader l dC dI cy G (zpi (zpi S a 9 v141) a 8 0) H.size a i r  (hst.nd hNd)) (cwV 0 hts gX3_look_X3_beginHeader rfl rfl rfl (by decide +kernel) ⟨Nat.le_of_ble_eq_true rfl, Nat.le_of_ble_eq_true rfl⟩) (zpreV hK hP hD hN (zrecv3 hK hP hNd.1)) rfl rfl hl.1 rfl (lv_room (Nat.le_of_ble_eq_true rfl)) dX3_look_101 ⟨Nat.le_of_ble_eq_true rfl, Nat.le_of_ble_eq_true rfl⟩) hS hD hA (fun S207 H locs hr206 hP hD hS => ?_)
                  have hst := hst.trans hr206
                  refine lv_goto (tgt := 153) hx hb dX3_look_104 (by decide) ?_
                  exact W.vret hx hb hr (fun t ht hW => ⟨⟨S207, rfl, hst, by rw [ht]; exact hP, va_K.moved hW.alike hK, hD⟩, hS.F ht⟩) hS.2.2 dX3_look_153
            · skip
              refine lv_aload_n hx hb dX3_look_80 rfl (lv_at hl 0 rfl) ?_
              refine zcallv (va_runV (As := []) (rest := []) ⟨hx, hb, hml, hown, hts⟩ (c_X3_meetBreak l dC dI cy G (zpi (zpi S a 9 v141) a 8 0) H.size a i r  (hst.nd hNd)) (cwV 0 hts gX3_look_X3_meetBreak rfl rfl rfl (by decide +kernel) ⟨Nat.le_of_ble_eq_true rfl, Nat.le_of_ble_eq_true rfl⟩) (zpreV hK hP hD hN (zrecv3 hK hP hNd.1)) rfl rfl hl.1 rfl (lv_room (Nat.le_of_ble_eq_true rfl)) dX3_look_81 ⟨Nat.le_of_ble_eq_true rfl, Nat.le_of_ble_eq_true rfl⟩) hS hD hA (fun S209 H locs hr208 hP hD hS => ?_)
              have hst := hst.trans hr208
              refine lv_goto (tgt := 153) hx hb dX3_look_84 (by decide) ?_
              exact W.vret hx hb hr (fun t ht hW => ⟨⟨S209, rfl, hst, by rw [ht]; exact hP, va_K.moved hW.alike hK, hD⟩, hS.F ht⟩) hS.2.2 dX3_look_153
        · skip
          refine lv_aload_n hx hb dX3_look_60 rfl (lv_at hl 0 rfl) ?_
          refine lv_iconst (v := 0) hx hb dX3_look_61 (by decide) ?_
          refine zputi (ci := 3) (v := 0) (ty := .int) (C := RX3) (T := TX3) (N := 15) hx hb hts hi3 tyX3 tyX3_ok nmX3 hown hK hP hD hS hNd.1 rfl rfl 6 (by decide) (hts (.fieldLink RX3 36 "LinCluster$Node" "at" "I") (by decide +kernel)) (fun _ h9 => h9) rfl (by decide +kernel) rfl rfl (Nat.le_of_ble_eq_true rfl) rfl dX3_look_62 (fun H locs hP hD hS => ?_)
          have hst := hst.pi (k := 6) (v := 0) hNd.1.2 rfl
          refine lv_goto (tgt := 153) hx hb dX3_look_65 (by decide) ?_
          exact W.vret hx hb hr (fun t ht hW => ⟨⟨(zpi (zpi (zpi S a 9 v141) a 8 0) a 6 0), rfl, hst, by rw [ht]; exact hP, va_K.moved hW.alike hK, hD⟩, hS.F ht⟩) hS.2.2 dX3_look_153
      · skip
        refine lv_aload_n hx hb dX3_look_37 rfl (lv_at hl 0 rfl) ?_
        refine zget (ci := 3) (C := RX3) (T := TX3) (N := 15) hx hb hts hi3 hown hK hP hNd.1 rfl rfl 8 (by decide) (hts (.fieldLink RX3 43 "LinCluster$Node" "ones" "I") (by decide +kernel)) (fun _ h9 => h9) rfl dX3_look_38 ?_
        refine lv_topi (fun v210 ev210 => ?_)
        refine lv_iconst (v := 1) hx hb dX3_look_41 (by decide) ?_
        refine lv_iadd hx hb dX3_look_42 ?_
        refine lv_topi (fun v211 ev211 => ?_)
        refine lv_goto (tgt := 47) hx hb dX3_look_43 (by decide) ?_
        refine zputi (ci := 3) (v := v211) (ty := .int) (C := RX3) (T := TX3) (N := 15) hx hb hts hi3 tyX3 tyX3_ok nmX3 hown hK hP hD hS hNd.1 rfl rfl 8 (by decide) (hts (.fieldLink RX3 43 "LinCluster$Node" "ones" "I") (by decide +kernel)) (fun _ h9 => h9) rfl (by decide +kernel) rfl rfl (Nat.le_of_ble_eq_true rfl) rfl dX3_look_47 (fun H locs hP hD hS => ?_)
        have hst := hst.pi (k := 8) (v := v211) hNd.1.2 rfl
        refine lv_aload_n hx hb dX3_look_50 rfl (lv_at hl 0 rfl) ?_
        refine zget (ci := 3) (C := RX3) (T := TX3) (N := 15) hx hb hts hi3 hown hK hP hNd.1 rfl rfl 8 (by decide) (hts (.fieldLink RX3 43 "LinCluster$Node" "ones" "I") (by decide +kernel)) (fun _ h9 => h9) rfl dX3_look_51 ?_
        refine lv_topi (fun v212 ev212 => ?_)
        refine lv_sipush (v := 3000) hx hb dX3_look_54 (by decide) ?_
        refine lv_icmp_lt (tgt := 68) hx hb dX3_look_57 (by decide) (fun c213 => ?_) (fun c213 => ?_)
        · skip
          refine lv_iload_n hx hb dX3_look_68 rfl (lv_at hl 1 rfl) ?_
          refine lv_if_ne (tgt := 87) hx hb dX3_look_69 (by decide) (fun c214 => ?_) (fun c214 => ?_)
          · skip
            refine lv_aload_n hx hb dX3_look_87 rfl (lv_at hl 0 rfl) ?_
            refine zget (ci := 3) (C := RX3) (T := TX3) (N := 15) hx hb hts hi3 hown hK hP hNd.1 rfl rfl 6 (by decide) (hts (.fieldLink RX3 36 "LinCluster$Node" "at" "I") (by decide +kernel)) (fun _ h9 => h9) rfl dX3_look_88 ?_
            refine lv_topi (fun v215 ev215 => ?_)
            refine lv_iconst (v := 2) hx hb dX3_look_91 (by decide) ?_
            refine lv_icmp_ne (tgt := 107) hx hb dX3_look_92 (by decide) (fun c216 => ?_) (fun c216 => ?_)
            · skip
              refine lv_aload_n hx hb dX3_look_107 rfl (lv_at hl 0 rfl) ?_
              refine zget (ci := 3) (C := RX3) (T := TX3) (N := 15) hx hb hts hi3 hown hK hP hNd.1 rfl rfl 6 (by decide) (hts (.fieldLink RX3 36 "LinCluster$Node" "at" "I") (by decide +kernel)) (fun _ h9 => h9) rfl dX3_look_108 ?_
              refine lv_topi (fun v217 ev217 => ?_)
              refine lv_iconst (v := 3) hx hb dX3_look_111 (by decide) ?_
              refine lv_icmp_ne (tgt := 124) hx hb dX3_look_112 (by decide) (fun c218 => ?_) (fun c218 => ?_)
              · skip
                refine lv_aload_n hx hb dX3_look_124 rfl (lv_at hl 0 rfl) ?_
                refine zget (ci := 3) (C := RX3) (T := TX3) (N := 15) hx hb hts hi3 hown hK hP hNd.1 rfl rfl 6 (by decide) (hts (.fieldLink RX3 36 "LinCluster$Node" "at" "I") (by decide +kernel)) (fun _ h9 => h9) rfl dX3_look_125 ?_
                refine lv_topi (fun v219 ev219 => ?_)
                refine lv_iconst (v := 4) hx hb dX3_look_128 (by decide) ?_
                refine lv_icmp_ne (tgt := 140) hx hb dX3_look_129 (by decide) (fun c220 => ?_) (fun c220 => ?_)
                · skip
                  refine lv_aload_n hx hb dX3_look_140 rfl (lv_at hl 0 rfl) ?_
                  refine zget (ci := 3) (C := RX3) (T := TX3) (N := 15) hx hb hts hi3 hown hK hP hNd.1 rfl rfl 6 (by decide) (hts (.fieldLink RX3 36 "LinCluster$Node" "at" "I") (by decide +kernel)) (fun _ h9 => h9) rfl dX3_look_141 ?_
                  refine lv_topi (fun v221 ev221 => ?_)
                  refine lv_iconst (v := 5) hx hb dX3_look_144 (by decide) ?_
                  refine lv_icmp_ne (tgt := 153) hx hb dX3_look_145 (by decide) (fun c222 => ?_) (fun c222 => ?_)
                  · skip
                    exact W.vret hx hb hr (fun t ht hW => ⟨⟨(zpi (zpi S a 9 v141) a 8 v211), rfl, hst, by rw [ht]; exact hP, va_K.moved hW.alike hK, hD⟩, hS.F ht⟩) hS.2.2 dX3_look_153
                  · skip
                    refine lv_aload_n hx hb dX3_look_148 rfl (lv_at hl 0 rfl) ?_
                    refine lv_iload_n hx hb dX3_look_149 rfl (lv_at hl 1 rfl) ?_
                    refine zcallv (va_runV (As := [.int n]) (rest := []) ⟨hx, hb, hml, hown, hts⟩ (c_X3_take l dC dI cy G (zpi (zpi S a 9 v141) a 8 v211) H.size a i r n (hst.nd hNd) (hst.rf hRf)) (cwV 1 hts gX3_look_X3_take rfl rfl rfl (by decide +kernel) ⟨Nat.le_of_ble_eq_true rfl, Nat.le_of_ble_eq_true rfl⟩) (zpreV hK hP hD hN (zrecv3 hK hP hNd.1)) rfl rfl hl.1 rfl (lv_room (Nat.le_of_ble_eq_true rfl)) dX3_look_150 ⟨Nat.le_of_ble_eq_true rfl, Nat.le_of_ble_eq_true rfl⟩) hS hD hA (fun S224 H locs hr223 hP hD hS => ?_)
                    have hst := hst.trans hr223
                    exact W.vret hx hb hr (fun t ht hW => ⟨⟨S224, rfl, hst, by rw [ht]; exact hP, va_K.moved hW.alike hK, hD⟩, hS.F ht⟩) hS.2.2 dX3_look_153
                · skip
                  refine lv_aload_n hx hb dX3_look_132 rfl (lv_at hl 0 rfl) ?_
                  refine lv_iload_n hx hb dX3_look_133 rfl (lv_at hl 1 rfl) ?_
                  refine zcallv (va_runV (As := [.int n]) (rest := []) ⟨hx, hb, hml, hown, hts⟩ (c_X3_compare l dC dI cy G (zpi (zpi S a 9 v141) a 8 v211) H.size a i r n (hst.nd hNd) (hst.rf hRf)) (cwV 1 hts gX3_look_X3_compare rfl rfl rfl (by decide +kernel) ⟨Nat.le_of_ble_eq_true rfl, Nat.le_of_ble_eq_true rfl⟩) (zpreV hK hP hD hN (zrecv3 hK hP hNd.1)) rfl rfl hl.1 rfl (lv_room (Nat.le_of_ble_eq_true rfl)) dX3_look_134 ⟨Nat.le_of_ble_eq_true rfl, Nat.le_of_ble_eq_true rfl⟩) hS hD hA (fun S226 H locs hr225 hP hD hS => ?_)
                  have hst := hst.trans hr225
                  refine lv_goto (tgt := 153) hx hb dX3_look_137 (by decide) ?_
                  exact W.vret hx hb hr (fun t ht hW => ⟨⟨S226, rfl, hst, by rw [ht]; exact hP, va_K.moved hW.alike hK, hD⟩, hS.F ht⟩) hS.2.2 dX3_look_153
              · skip
                refine lv_aload_n hx hb dX3_look_115 rfl (lv_at hl 0 rfl) ?_
                refine lv_iload_n hx hb dX3_look_116 rfl (lv_at hl 1 rfl) ?_
                refine lv_aload_n hx hb dX3_look_117 rfl (lv_at hl 3 rfl) ?_
                refine zcallv (va_runV (As := [.int n, .ref f]) (rest := []) ⟨hx, hb, hml, hown, hts⟩ (c_X3_lookInHeader l dC dI cy G (zpi (zpi S a 9 v141) a 8 v211) H.size a i r f n (hst.nd hNd) (hst.fa hFa)) (cwV 2 hts gX3_look_X3_lookInHeader rfl rfl rfl (by decide +kernel) ⟨Nat.le_of_ble_eq_true rfl, Nat.le_of_ble_eq_true rfl⟩) (zpreV hK hP hD hN (zrecv3 hK hP hNd.1)) rfl rfl hl.1 rfl (lv_room (Nat.le_of_ble_eq_true rfl)) dX3_look_118 ⟨Nat.le_of_ble_eq_true rfl, Nat.le_of_ble_eq_true rfl⟩) hS hD hA (fun S228 H locs hr227 hP hD hS => ?_)
                have hst := hst.trans hr227
                refine lv_goto (tgt := 153) hx hb dX3_look_121 (by decide) ?_
                exact W.vret hx hb hr (fun t ht hW => ⟨⟨S228, rfl, hst, by rw [ht]; exact hP, va_K.moved hW.alike hK, hD⟩, hS.F ht⟩) hS.2.2 dX3_look_153
            · skip
              refine lv_iload_n hx hb dX3_look_95 rfl (lv_at hl 1 rfl) ?_
              refine lv_iconst (v := 1) hx hb dX3_look_96 (by decide) ?_
              refine lv_icmp_ne (tgt := 107) hx hb dX3_look_97 (by decide) (fun c229 => ?_) (fun c229 => ?_)
              · skip
                refine lv_aload_n hx hb dX3_look_107 rfl (lv_at hl 0 rfl) ?_
                refine zget (ci := 3) (C := RX3) (T := TX3) (N := 15) hx hb hts hi3 hown hK hP hNd.1 rfl rfl 6 (by decide) (hts (.fieldLink RX3 36 "LinCluster$Node" "at" "I") (by decide +kernel)) (fun _ h9 => h9) rfl dX3_look_108 ?_
                refine lv_topi (fun v230 ev230 => ?_)
                refine lv_iconst (v := 3) hx hb dX3_look_111 (by decide) ?_
                refine lv_icmp_ne (tgt := 124) hx hb dX3_look_112 (by decide) (fun c231 => ?_) (fun c231 => ?_)
                · skip
                  refine lv_aload_n hx hb dX3_look_124 rfl (lv_at hl 0 rfl) ?_
                  refine zget (ci := 3) (C := RX3) (T := TX3) (N := 15) hx hb hts hi3 hown hK hP hNd.1 rfl rfl 6 (by decide) (hts (.fieldLink RX3 36 "LinCluster$Node" "at" "I") (by decide +kernel)) (fun _ h9 => h9) rfl dX3_look_125 ?_
                  refine lv_topi (fun v232 ev232 => ?_)
                  refine lv_iconst (v := 4) hx hb dX3_look_128 (by decide) ?_
                  refine lv_icmp_ne (tgt := 140) hx hb dX3_look_129 (by decide) (fun c233 => ?_) (fun c233 => ?_)
                  · skip
                    refine lv_aload_n hx hb dX3_look_140 rfl (lv_at hl 0 rfl) ?_
                    refine zget (ci := 3) (C := RX3) (T := TX3) (N := 15) hx hb hts hi3 hown hK hP hNd.1 rfl rfl 6 (by decide) (hts (.fieldLink RX3 36 "LinCluster$Node" "at" "I") (by decide +kernel)) (fun _ h9 => h9) rfl dX3_look_141 ?_
                    refine lv_topi (fun v234 ev234 => ?_)
                    refine lv_iconst (v := 5) hx hb dX3_look_144 (by decide) ?_
                    refine lv_icmp_ne (tgt := 153) hx hb dX3_look_145 (by decide) (fun c235 => ?_) (fun c235 => ?_)
                    · skip
                      exact W.vret hx hb hr (fun t ht hW => ⟨⟨(zpi (zpi S a 9 v141) a 8 v211), rfl, hst, by rw [ht]; exact hP, va_K.moved hW.alike hK, hD⟩, hS.F ht⟩) hS.2.2 dX3_look_153
                    · skip
                      refine lv_aload_n hx hb dX3_look_148 rfl (lv_at hl 0 rfl) ?_
                      refine lv_iload_n hx hb dX3_look_149 rfl (lv_at hl 1 rfl) ?_
                      refine zcallv (va_runV (As := [.int n]) (rest := []) ⟨hx, hb, hml, hown, hts⟩ (c_X3_take l dC dI cy G (zpi (zpi S a 9 v141) a 8 v211) H.size a i r n (hst.nd hNd) (hst.rf hRf)) (cwV 1 hts gX3_look_X3_take rfl rfl rfl (by decide +kernel) ⟨Nat.le_of_ble_eq_true rfl, Nat.le_of_ble_eq_true rfl⟩) (zpreV hK hP hD hN (zrecv3 hK hP hNd.1)) rfl rfl hl.1 rfl (lv_room (Nat.le_of_ble_eq_true rfl)) dX3_look_150 ⟨Nat.le_of_ble_eq_true rfl, Nat.le_of_ble_eq_true rfl⟩) hS hD hA (fun S237 H locs hr236 hP hD hS => ?_)
                      have hst := hst.trans hr236
                      exact W.vret hx hb hr (fun t ht hW => ⟨⟨S237, rfl, hst, by rw [ht]; exact hP, va_K.moved hW.alike hK, hD⟩, hS.F ht⟩) hS.2.2 dX3_look_153
                  · skip
                    refine lv_aload_n hx hb dX3_look_132 rfl (lv_at hl 0 rfl) ?_
                    refine lv_iload_n hx hb dX3_look_133 rfl (lv_at hl 1 rfl) ?_
                    refine zcallv (va_runV (As := [.int n]) (rest := []) ⟨hx, hb, hml, hown, hts⟩ (c_X3_compare l dC dI cy G (zpi (zpi S a 9 v141) a 8 v211) H.size a i r n (hst.nd hNd) (hst.rf hRf)) (cwV 1 hts gX3_look_X3_compare rfl rfl rfl (by decide +kernel) ⟨Nat.le_of_ble_eq_true rfl, Nat.le_of_ble_eq_true rfl⟩) (zpreV hK hP hD hN (zrecv3 hK hP hNd.1)) rfl rfl hl.1 rfl (lv_room (Nat.le_of_ble_eq_true rfl)) dX3_look_134 ⟨Nat.le_of_ble_eq_true rfl, Nat.le_of_ble_eq_true rfl⟩) hS hD hA (fun S239 H locs hr238 hP hD hS => ?_)
                    have hst := hst.trans hr238
                    refine lv_goto (tgt := 153) hx hb dX3_look_137 (by decide) ?_
                    exact W.vret hx hb hr (fun t ht hW => ⟨⟨S239, rfl, hst, by rw [ht]; exact hP, va_K.moved hW.alike hK, hD⟩, hS.F ht⟩) hS.2.2 dX3_look_153
                · skip
                  refine lv_aload_n hx hb dX3_look_115 rfl (lv_at hl 0 rfl) ?_
                  refine lv_iload_n hx hb dX3_look_116 rfl (lv_at hl 1 rfl) ?_
                  refine lv_aload_n hx hb dX3_look_117 rfl (lv_at hl 3 rfl) ?_
                  refine zcallv (va_runV (As := [.int n, .ref f]) (rest := []) ⟨hx, hb, hml, hown, hts⟩ (c_X3_lookInHeader l dC dI cy G (zpi (zpi S a 9 v141) a 8 v211) H.size a i r f n (hst.nd hNd) (hst.fa hFa)) (cwV 2 hts gX3_look_X3_lookInHeader rfl rfl rfl (by decide +kernel) ⟨Nat.le_of_ble_eq_true rfl, Nat.le_of_ble_eq_true rfl⟩) (zpreV hK hP hD hN (zrecv3 hK hP hNd.1)) rfl rfl hl.1 rfl (lv_room (Nat.le_of_ble_eq_true rfl)) dX3_look_118 ⟨Nat.le_of_ble_eq_true rfl, Nat.le_of_ble_eq_true rfl⟩) hS hD hA (fun S241 H locs hr240 hP hD hS => ?_)
                  have hst := hst.trans hr240
                  refine lv_goto (tgt := 153) hx hb dX3_look_121 (by decide) ?_
                  exact W.vret hx hb hr (fun t ht hW => ⟨⟨S241, rfl, hst, by rw [ht]; exact hP, va_K.moved hW.alike hK, hD⟩, hS.F ht⟩) hS.2.2 dX3_look_153
              · skip
                refine lv_aload_n hx hb dX3_look_100 rfl (lv_at hl 0 rfl) ?_
                refine zcallv (va_runV (As := []) (rest := []) ⟨hx, hb, hml, hown, hts⟩ (c_X3_beginHeader l dC dI cy G (zpi (zpi S a 9 v141) a 8 v211) H.size a i r  (hst.nd hNd)) (cwV 0 hts gX3_look_X3_beginHeader rfl rfl rfl (by decide +kernel) ⟨Nat.le_of_ble_eq_true rfl, Nat.le_of_ble_eq_true rfl⟩) (zpreV hK hP hD hN (zrecv3 hK hP hNd.1)) rfl rfl hl.1 rfl (lv_room (Nat.le_of_ble_eq_true rfl)) dX3_look_101 ⟨Nat.le_of_ble_eq_true rfl, Nat.le_of_ble_eq_true rfl⟩) hS hD hA (fun S243 H locs hr242 hP hD hS => ?_)
                have hst := hst.trans hr242
                refine lv_goto (tgt := 153) hx hb dX3_look_104 (by decide) ?_
                exact W.vret hx hb hr (fun t ht hW => ⟨⟨S243, rfl, hst, by rw [ht]; exact hP, va_K.moved hW.alike hK, hD⟩, hS.F ht⟩) hS.2.2 dX3_look_153
          · skip
            refine lv_iload_n hx hb dX3_look_72 rfl (lv_at hl 2 rfl) ?_
            refine lv_iconst (v := 1) hx hb dX3_look_73 (by decide) ?_
            refine lv_iadd hx hb dX3_look_74 ?_
            refine lv_topi (fun v244 ev244 => ?_)
            refine lv_bipush (v := 11) hx hb dX3_look_75 (by decide) ?_
            refine lv_icmp_ne (tgt := 87) hx hb dX3_look_77 (by decide) (fun c245 => ?_) (fun c245 => ?_)
            · skip
              refine lv_aload_n hx hb dX3_look_87 rfl (lv_at hl 0 rfl) ?_
              refine zget (ci := 3) (C := RX3) (T := TX3) (N := 15) hx hb hts hi3 hown hK hP hNd.1 rfl rfl 6 (by decide) (hts (.fieldLink RX3 36 "LinCluster$Node" "at" "I") (by decide +kernel)) (fun _ h9 => h9) rfl dX3_look_88 ?_
              refine lv_topi (fun v246 ev246 => ?_)
              refine lv_iconst (v := 2) hx hb dX3_look_91 (by decide) ?_
              refine lv_icmp_ne (tgt := 107) hx hb dX3_look_92 (by decide) (fun c247 => ?_) (fun c247 => ?_)
              · skip
                refine lv_aload_n hx hb dX3_look_107 rfl (lv_at hl 0 rfl) ?_
                refine zget (ci := 3) (C := RX3) (T := TX3) (N := 15) hx hb hts hi3 hown hK hP hNd.1 rfl rfl 6 (by decide) (hts (.fieldLink RX3 36 "LinCluster$Node" "at" "I") (by decide +kernel)) (fun _ h9 => h9) rfl dX3_look_108 ?_
                refine lv_topi (fun v248 ev248 => ?_)
                refine lv_iconst (v := 3) hx hb dX3_look_111 (by decide) ?_
                refine lv_icmp_ne (tgt := 124) hx hb dX3_look_112 (by decide) (fun c249 => ?_) (fun c249 => ?_)
                · skip
                  refine lv_aload_n hx hb dX3_look_124 rfl (lv_at hl 0 rfl) ?_
                  refine zget (ci := 3) (C := RX3) (T := TX3) (N := 15) hx hb hts hi3 hown hK hP hNd.1 rfl rfl 6 (by decide) (hts (.fieldLink RX3 36 "LinCluster$Node" "at" "I") (by decide +kernel)) (fun _ h9 => h9) rfl dX3_look_125 ?_
                  refine lv_topi (fun v250 ev250 => ?_)
                  refine lv_iconst (v := 4) hx hb dX3_look_128 (by decide) ?_
                  refine lv_icmp_ne (tgt := 140) hx hb dX3_look_129 (by decide) (fun c251 => ?_) (fun c251 => ?_)
                  · skip
                    refine lv_aload_n hx hb dX3_look_140 rfl (lv_at hl 0 rfl) ?_
                    refine zget (ci := 3) (C := RX3) (T := TX3) (N := 15) hx hb hts hi3 hown hK hP hNd.1 rfl rfl 6 (by decide) (hts (.fieldLink RX3 36 "LinCluster$Node" "at" "I") (by decide +kernel)) (fun _ h9 => h9) rfl dX3_look_141 ?_
                    refine lv_topi (fun v252 ev252 => ?_)
                    refine lv_iconst (v := 5) hx hb dX3_look_144 (by decide) ?_
                    refine lv_icmp_ne (tgt := 153) hx hb dX3_look_145 (by decide) (fun c253 => ?_) (fun c253 => ?_)
                    · skip
                      exact W.vret hx hb hr (fun t ht hW => ⟨⟨(zpi (zpi S a 9 v141) a 8 v211), rfl, hst, by rw [ht]; exact hP, va_K.moved hW.alike hK, hD⟩, hS.F ht⟩) hS.2.2 dX3_look_153
                    · skip
                      refine lv_aload_n hx hb dX3_look_148 rfl (lv_at hl 0 rfl) ?_
                      refine lv_iload_n hx hb dX3_look_149 rfl (lv_at hl 1 rfl) ?_
                      refine zcallv (va_runV (As := [.int n]) (rest := []) ⟨hx, hb, hml, hown, hts⟩ (c_X3_take l dC dI cy G (zpi (zpi S a 9 v141) a 8 v211) H.size a i r n (hst.nd hNd) (hst.rf hRf)) (cwV 1 hts gX3_look_X3_take rfl rfl rfl (by decide +kernel) ⟨Nat.le_of_ble_eq_true rfl, Nat.le_of_ble_eq_true rfl⟩) (zpreV hK hP hD hN (zrecv3 hK hP hNd.1)) rfl rfl hl.1 rfl (lv_room (Nat.le_of_ble_eq_true rfl)) dX3_look_150 ⟨Nat.le_of_ble_eq_true rfl, Nat.le_of_ble_eq_true rfl⟩) hS hD hA (fun S255 H locs hr254 hP hD hS => ?_)
                      have hst := hst.trans hr254
                      exact W.vret hx hb hr (fun t ht hW => ⟨⟨S255, rfl, hst, by rw [ht]; exact hP, va_K.moved hW.alike hK, hD⟩, hS.F ht⟩) hS.2.2 dX3_look_153
                  · skip
                    refine lv_aload_n hx hb dX3_look_132 rfl (lv_at hl 0 rfl) ?_
                    refine lv_iload_n hx hb dX3_look_133 rfl (lv_at hl 1 rfl) ?_
                    refine zcallv (va_runV (As := [.int n]) (rest := []) ⟨hx, hb, hml, hown, hts⟩ (c_X3_compare l dC dI cy G (zpi (zpi S a 9 v141) a 8 v211) H.size a i r n (hst.nd hNd) (hst.rf hRf)) (cwV 1 hts gX3_look_X3_compare rfl rfl rfl (by decide +kernel) ⟨Nat.le_of_ble_eq_true rfl, Nat.le_of_ble_eq_true rfl⟩) (zpreV hK hP hD hN (zrecv3 hK hP hNd.1)) rfl rfl hl.1 rfl (lv_room (Nat.le_of_ble_eq_true rfl)) dX3_look_134 ⟨Nat.le_of_ble_eq_true rfl, Nat.le_of_ble_eq_true rfl⟩) hS hD hA (fun S257 H locs hr256 hP hD hS => ?_)
                    have hst := hst.trans hr256
                    refine lv_goto (tgt := 153) hx hb dX3_look_137 (by decide) ?_
                    exact W.vret hx hb hr (fun t ht hW => ⟨⟨S257, rfl, hst, by rw [ht]; exact hP, va_K.moved hW.alike hK, hD⟩, hS.F ht⟩) hS.2.2 dX3_look_153
                · skip
                  refine lv_aload_n hx hb dX3_look_115 rfl (lv_at hl 0 rfl) ?_
                  refine lv_iload_n hx hb dX3_look_116 rfl (lv_at hl 1 rfl) ?_
                  refine lv_aload_n hx hb dX3_look_117 rfl (lv_at hl 3 rfl) ?_
                  refine zcallv (va_runV (As := [.int n, .ref f]) (rest := []) ⟨hx, hb, hml, hown, hts⟩ (c_X3_lookInHeader l dC dI cy G (zpi (zpi S a 9 v141) a 8 v211) H.size a i r f n (hst.nd hNd) (hst.fa hFa)) (cwV 2 hts gX3_look_X3_lookInHeader rfl rfl rfl (by decide +kernel) ⟨Nat.le_of_ble_eq_true rfl, Nat.le_of_ble_eq_true rfl⟩) (zpreV hK hP hD hN (zrecv3 hK hP hNd.1)) rfl rfl hl.1 rfl (lv_room (Nat.le_of_ble_eq_true rfl)) dX3_look_118 ⟨Nat.le_of_ble_eq_true rfl, Nat.le_of_ble_eq_true rfl⟩) hS hD hA (fun S259 H locs hr258 hP hD hS => ?_)
                  have hst := hst.trans hr258
                  refine lv_goto (tgt := 153) hx hb dX3_look_121 (by decide) ?_
                  exact W.vret hx hb hr (fun t ht hW => ⟨⟨S259, rfl, hst, by rw [ht]; exact hP, va_K.moved hW.alike hK, hD⟩, hS.F ht⟩) hS.2.2 dX3_look_153
              · skip
                refine lv_iload_n hx hb dX3_look_95 rfl (lv_at hl 1 rfl) ?_
                refine lv_iconst (v := 1) hx hb dX3_look_96 (by decide) ?_
                refine lv_icmp_ne (tgt := 107) hx hb dX3_look_97 (by decide) (fun c260 => ?_) (fun c260 => ?_)
                · skip
                  refine lv_aload_n hx hb dX3_look_107 rfl (lv_at hl 0 rfl) ?_
                  refine zget (ci := 3) (C := RX3) (T := TX3) (N := 15) hx hb hts hi3 hown hK hP hNd.1 rfl rfl 6 (by decide) (hts (.fieldLink RX3 36 "LinCluster$Node" "at" "I") (by decide +kernel)) (fun _ h9 => h9) rfl dX3_look_108 ?_
                  refine lv_topi (fun v261 ev261 => ?_)
                  refine lv_iconst (v := 3) hx hb dX3_look_111 (by decide) ?_
                  refine lv_icmp_ne (tgt := 124) hx hb dX3_look_112 (by decide) (fun c262 => ?_) (fun c262 => ?_)
                  · skip
                    refine lv_aload_n hx hb dX3_look_124 rfl (lv_at hl 0 rfl) ?_
                    refine zget (ci := 3) (C := RX3) (T := TX3) (N := 15) hx hb hts hi3 hown hK hP hNd.1 rfl rfl 6 (by decide) (hts (.fieldLink RX3 36 "LinCluster$Node" "at" "I") (by decide +kernel)) (fun _ h9 => h9) rfl dX3_look_125 ?_
                    refine lv_topi (fun v263 ev263 => ?_)
                    refine lv_iconst (v := 4) hx hb dX3_look_128 (by decide) ?_
                    refine lv_icmp_ne (tgt := 140) hx hb dX3_look_129 (by decide) (fun c264 => ?_) (fun c264 => ?_)
                    · skip
                      refine lv_aload_n hx hb dX3_look_140 rfl (lv_at hl 0 rfl) ?_
                      refine zget (ci := 3) (C := RX3) (T := TX3) (N := 15) hx hb hts hi3 hown hK hP hNd.1 rfl rfl 6 (by decide) (hts (.fieldLink RX3 36 "LinCluster$Node" "at" "I") (by decide +kernel)) (fun _ h9 => h9) rfl dX3_look_141 ?_
                      refine lv_topi (fun v265 ev265 => ?_)
                      refine lv_iconst (v := 5) hx hb dX3_look_144 (by decide) ?_
                      refine lv_icmp_ne (tgt := 153) hx hb dX3_look_145 (by decide) (fun c266 => ?_) (fun c266 => ?_)
                      · skip
                        exact W.vret hx hb hr (fun t ht hW => ⟨⟨(zpi (zpi S a 9 v141) a 8 v211), rfl, hst, by rw [ht]; exact hP, va_K.moved hW.alike hK, hD⟩, hS.F ht⟩) hS.2.2 dX3_look_153
                      · skip
                        refine lv_aload_n hx hb dX3_look_148 rfl (lv_at hl 0 rfl) ?_
                        refine lv_iload_n hx hb dX3_look_149 rfl (lv_at hl 1 rfl) ?_
                        refine zcallv (va_runV (As := [.int n]) (rest := []) ⟨hx, hb, hml, hown, hts⟩ (c_X3_take l dC dI cy G (zpi (zpi S a 9 v141) a 8 v211) H.size a i r n (hst.nd hNd) (hst.rf hRf)) (cwV 1 hts gX3_look_X3_take rfl rfl rfl (by decide +kernel) ⟨Nat.le_of_ble_eq_true rfl, Nat.le_of_ble_eq_true rfl⟩) (zpreV hK hP hD hN (zrecv3 hK hP hNd.1)) rfl rfl hl.1 rfl (lv_room (Nat.le_of_ble_eq_true rfl)) dX3_look_150 ⟨Nat.le_of_ble_eq_true rfl, Nat.le_of_ble_eq_true rfl⟩) hS hD hA (fun S268 H locs hr267 hP hD hS => ?_)
                        have hst := hst.trans hr267
                        exact W.vret hx hb hr (fun t ht hW => ⟨⟨S268, rfl, hst, by rw [ht]; exact hP, va_K.moved hW.alike hK, hD⟩, hS.F ht⟩) hS.2.2 dX3_look_153
                    · skip
                      refine lv_aload_n hx hb dX3_look_132 rfl (lv_at hl 0 rfl) ?_
                      refine lv_iload_n hx hb dX3_look_133 rfl (lv_at hl 1 rfl) ?_
                      refine zcallv (va_runV (As := [.int n]) (rest := []) ⟨hx, hb, hml, hown, hts⟩ (c_X3_compare l dC dI cy G (zpi (zpi S a 9 v141) a 8 v211) H.size a i r n (hst.nd hNd) (hst.rf hRf)) (cwV 1 hts gX3_look_X3_compare rfl rfl rfl (by decide +kernel) ⟨Nat.le_of_ble_eq_true rfl, Nat.le_of_ble_eq_true rfl⟩) (zpreV hK hP hD hN (zrecv3 hK hP hNd.1)) rfl rfl hl.1 rfl (lv_room (Nat.le_of_ble_eq_true rfl)) dX3_look_134 ⟨Nat.le_of_ble_eq_true rfl, Nat.le_of_ble_eq_true rfl⟩) hS hD hA (fun S270 H locs hr269 hP hD hS => ?_)
                      have hst := hst.trans hr269
                      refine lv_goto (tgt := 153) hx hb dX3_look_137 (by decide) ?_
                      exact W.vret hx hb hr (fun t ht hW => ⟨⟨S270, rfl, hst, by rw [ht]; exact hP, va_K.moved hW.alike hK, hD⟩, hS.F ht⟩) hS.2.2 dX3_look_153
                  · skip
                    refine lv_aload_n hx hb dX3_look_115 rfl (lv_at hl 0 rfl) ?_
                    refine lv_iload_n hx hb dX3_look_116 rfl (lv_at hl 1 rfl) ?_
                    refine lv_aload_n hx hb dX3_look_117 rfl (lv_at hl 3 rfl) ?_
                    refine zcallv (va_runV (As := [.int n, .ref f]) (rest := []) ⟨hx, hb, hml, hown, hts⟩ (c_X3_lookInHeader l dC dI cy G (zpi (zpi S a 9 v141) a 8 v211) H.size a i r f n (hst.nd hNd) (hst.fa hFa)) (cwV 2 hts gX3_look_X3_lookInHeader rfl rfl rfl (by decide +kernel) ⟨Nat.le_of_ble_eq_true rfl, Nat.le_of_ble_eq_true rfl⟩) (zpreV hK hP hD hN (zrecv3 hK hP hNd.1)) rfl rfl hl.1 rfl (lv_room (Nat.le_of_ble_eq_true rfl)) dX3_look_118 ⟨Nat.le_of_ble_eq_true rfl, Nat.le_of_ble_eq_true rfl⟩) hS hD hA (fun S272 H locs hr271 hP hD hS => ?_)
                    have hst := hst.trans hr271
                    refine lv_goto (tgt := 153) hx hb dX3_look_121 (by decide) ?_
                    exact W.vret hx hb hr (fun t ht hW => ⟨⟨S272, rfl, hst, by rw [ht]; exact hP, va_K.moved hW.alike hK, hD⟩, hS.F ht⟩) hS.2.2 dX3_look_153
                · skip
                  refine lv_aload_n hx hb dX3_look_100 rfl (lv_at hl 0 rfl) ?_
                  refine zcallv (va_runV (As := []) (rest := []) ⟨hx, hb, hml, hown, hts⟩ (c_X3_beginHeader l dC dI cy G (zpi (zpi S a 9 v141) a 8 v211) H.size a i r  (hst.nd hNd)) (cwV 0 hts gX3_look_X3_beginHeader rfl rfl rfl (by decide +kernel) ⟨Nat.le_of_ble_eq_true rfl, Nat.le_of_ble_eq_true rfl⟩) (zpreV hK hP hD hN (zrecv3 hK hP hNd.1)) rfl rfl hl.1 rfl (lv_room (Nat.le_of_ble_eq_true rfl)) dX3_look_101 ⟨Nat.le_of_ble_eq_true rfl, Nat.le_of_ble_eq_true rfl⟩) hS hD hA (fun S274 H locs hr273 hP hD hS => ?_)
                  have hst := hst.trans hr273
                  refine lv_goto (tgt := 153) hx hb dX3_look_104 (by decide) ?_
                  exact W.vret hx hb hr (fun t ht hW => ⟨⟨S274, rfl, hst, by rw [ht]; exact hP, va_K.moved hW.alike hK, hD⟩, hS.F ht⟩) hS.2.2 dX3_look_153
            · skip
              refine lv_aload_n hx hb dX3_look_80 rfl (lv_at hl 0 rfl) ?_
              refine zcallv (va_runV (As := []) (rest := []) ⟨hx, hb, hml, hown, hts⟩ (c_X3_meetBreak l dC dI cy G (zpi (zpi S a 9 v141) a 8 v211) H.size a i r  (hst.nd hNd)) (cwV 0 hts gX3_look_X3_meetBreak rfl rfl rfl (by decide +kernel) ⟨Nat.le_of_ble_eq_true rfl, Nat.le_of_ble_eq_true rfl⟩) (zpreV hK hP hD hN (zrecv3 hK hP hNd.1)) rfl rfl hl.1 rfl (lv_room (Nat.le_of_ble_eq_true rfl)) dX3_look_81 ⟨Nat.le_of_ble_eq_true rfl, Nat.le_of_ble_eq_true rfl⟩) hS hD hA (fun S276 H locs hr275 hP hD hS => ?_)
              have hst := hst.trans hr275
              refine lv_goto (tgt := 153) hx hb dX3_look_84 (by decide) ?_
              exact W.vret hx hb hr (fun t ht hW => ⟨⟨S276, rfl, hst, by rw [ht]; exact hP, va_K.moved hW.alike hK, hD⟩, hS.F ht⟩) hS.2.2 dX3_look_153
        · skip
          refine lv_aload_n hx hb dX3_look_60 rfl (lv_at hl 0 rfl) ?_
          refine lv_iconst (v := 0) hx hb dX3_look_61 (by decide) ?_
          refine zputi (ci := 3) (v := 0) (ty := .int) (C := RX3) (T := TX3) (N := 15) hx hb hts hi3 tyX3 tyX3_ok nmX3 hown hK hP hD hS hNd.1 rfl rfl 6 (by decide) (hts (.fieldLink RX3 36 "LinCluster$Node" "at" "I") (by decide +kernel)) (fun _ h9 => h9) rfl (by decide +kernel) rfl rfl (Nat.le_of_ble_eq_true rfl) rfl dX3_look_62 (fun H locs hP hD hS => ?_)
          have hst := hst.pi (k := 6) (v := 0) hNd.1.2 rfl
          refine lv_goto (tgt := 153) hx hb dX3_look_65 (by decide) ?_
          exact W.vret hx hb hr (fun t ht hW => ⟨⟨(zpi (zpi (zpi S a 9 v141) a 8 v211) a 6 0), rfl, hst, by rw [ht]; exact hP, va_K.moved hW.alike hK, hD⟩, hS.F ht⟩) hS.2.2 dX3_look_153
    · skip
      refine lv_aload_n hx hb dX3_look_24 rfl (lv_at hl 0 rfl) ?_
      refine lv_iload_n hx hb dX3_look_25 rfl (lv_at hl 1 rfl) ?_
      refine lv_iload_n hx hb dX3_look_26 rfl (lv_at hl 2 rfl) ?_
      refine zcallv (va_runV (As := [.int n, .int k]) (rest := []) ⟨hx, hb, hml, hown, hts⟩ (c_X3_lookAsleep l dC dI cy G (zpi S a 9 v141) H.size a i r n k (hst.nd hNd)) (cwV 2 hts gX3_look_X3_lookAsleep rfl rfl rfl (by decide +kernel) ⟨Nat.le_of_ble_eq_true rfl, Nat.le_of_ble_eq_true rfl⟩) (zpreV hK hP hD hN (zrecv3 hK hP hNd.1)) rfl rfl hl.1 rfl (lv_room (Nat.le_of_ble_eq_true rfl)) dX3_look_27 ⟨Nat.le_of_ble_eq_true rfl, Nat.le_of_ble_eq_true rfl⟩) hS hD hA (fun S278 H locs hr277 hP hD hS => ?_)
      have hst := hst.trans hr277
      exact W.vret hx hb hr (fun t ht hW => ⟨⟨S278, rfl, hst, by rw [ht]; exact hP, va_K.moved hW.alike hK, hD⟩, hS.F ht⟩) hS.2.2 dX3_look_30
