/-- the frame of an ID, if it is there: by its address -/
def zfo (S : zS) (f : Nat) (id : Int32) (r : Option Nat) : Prop := (∃ j, j < 62 ∧ id = nI j ∧ r = S.2.2 f j) ∨ ((id < 0 ∨ 62 ≤ id) ∧ r = none)
def kStatus (v : Int32) (fr : Option (Int32 × Int32)) (b k : Int32) : Int32 := match fr with
  | none => 1
  | some q => if ((v < 0 ∨ 8 ≤ v) ∨ ¬ q.2 = v ∨ (b < 0 ∨ q.1 ≤ b) ∨ k < 0 ∨ ¬ k ≤ 7) then 1 else 0
def kSlot (t c : Int32) (fr : Option (Int32 × Int32)) (b : Int32) : Int32 := match fr with
  | none => 1
  | some _ => if (b < 50 ∨ ¬ b ≤ 400) then 1 else if (0 < t ∨ ¬ c < 16) then 2 else 0
def kWrite (fr : Option (Int32 × Int32)) (b v : Int32) : Int32 := match fr with
  | none => 1
  | some q => if ((b < 0 ∨ q.1 ≤ b) ∨ v < 0 ∨ ¬ v ≤ 255) then 1 else 0
def kListen (v : Int32) (fr : Option (Int32 × Int32)) : Int32 := match fr with
  | none => 1
  | some q => if ((v < 0 ∨ 8 ≤ v) ∨ q.2 = v) then 1 else 0
def kChecks (fr : Option (Int32 × Int32)) : Int32 := match fr with
  | none => 1
  | some _ => 0
def kFrame (t a b v : Int32) : Int32 := if (a < 0 ∨ 62 ≤ a ∨ b < 1 ∨ 8 < b ∨ (v < 0 ∨ 8 ≤ v)) then 1 else if 0 < t then 2 else 0
def zfv (S : zS) (r : Option Nat) : Option (Int32 × Int32) := r.map (fun y => (S.1 y 1, S.1 y 2))
theorem zhas1 {r n L : Int32} (h : (r = 1 ∧ ¬ n < 0 ∧ ¬ L ≤ n) ∨ (r = 0 ∧ (n < 0 ∨ L ≤ n))) (c : ¬ r = 0) : ¬ (n < 0 ∨ L ≤ n) := h.elim (fun q z => z.elim q.2.1 q.2.2) (fun q => absurd q.1 c)
theorem zhas0 {r n L : Int32} (h : (r = 1 ∧ ¬ n < 0 ∧ ¬ L ≤ n) ∨ (r = 0 ∧ (n < 0 ∨ L ≤ n))) (c : r = 0) : n < 0 ∨ L ≤ n := h.elim (fun q => absurd (q.1.symm.trans c) (by decide)) (fun q => q.2)
set_option maxHeartbeats 4000000 in
set_option maxRecDepth 100000 in
theorem x_X6_status (l : Launch) (hlt : l.stackTraces = false) (dC : Nat → ClassId) (dI : Nat → Nat → Nat) (cy : Nat → ClassId) (G : zG) (S : zS) (sz : Nat) (x f n sc ia na d ka va : Nat) (v id b k : Int32) (hX : zX G S x f n sc ia na d ka va)  : vx_Met l yX6_status wsX6_status ({ frames := 6, cells := 1, slots := 6, locals := 82 }) (zPx dC dI cy [.ref x, .int v, .int id, .int b, .int k] G S sz) (va_Qv (fun S' => ∃ q, zfo S f id q ∧ kStatus v (zfv S q) b k = 0 ∧ zSt G S S') (zB dC dI cy (zA cy G S sz) G) (zA cy G S sz)) (vx_X (fun _ : Unit => True) (fun E _ t => (E = "java/lang/IllegalArgumentException" ∧ ∃ q, zfo S f id q ∧ kStatus v (zfv S q) b k = 1) ∧ zB dC dI cy (zA cy G S sz) G S t) (zA cy G S sz)) 1 6 (zA cy G S sz) := by
  refine vx_ofW (cc := cX6_status) (maxL := 6) (ret := none) (by decide) rfl ?_
  intro p e s m args below meth c s₁ B hml hxt hv
  obtain ⟨rfl, ⟨hsz, hP, hK, hD0, hN⟩, hE⟩ := hv
  have hx := B.exec
  have hb := B.bytes
  have hr := B.returns
  have hts := atoms_spec (ws := wsX6_status) B.pre
  have hown : s.vm.findClass RX6 = some m.cls := findClass_of_methodNamed B.named
  have hlocks := B.notSynchronized
  subst hsz
  have hD : va_D (zA cy G S s.heap.size) (zW cy G S) := hD0.self
  generalize hAe : zA cy G S s.heap.size = A at hD hE ⊢
  have hA : ∀ q : Nat, s.heap.size ≤ q → A q := fun q h => by rw [← hAe]; exact Or.inr h
  have hS : va_S A s.heap s.heap [] := va_S.rf
  have hst := zSt.refl G S
  have hl := lv_entry ([.ref x, .int v, .int id, .int b, .int k]) (n := 6) (Nat.le_of_ble_eq_true rfl)
  rw [lg_entry_eq]
  generalize (lg_sl ([.ref x, .int v, .int id, .int b, .int k]) ++ List.replicate (6 - (lg_sl ([.ref x, .int v, .int id, .int b, .int k])).length) Slot.unset).toArray = ls at hl ⊢
  have hl : lv_has ls 6 [(0, .ref x), (1, .int v), (2, .int id), (3, .int b), (4, .int k)] := hl
  have hi1 : ∀ w ∈ wsX10, w ∈ wsX6_status := by decide +kernel
  have hi6 : ∀ w ∈ wsX60, w ∈ wsX6_status := by decide +kernel
  have hX0 := hX
  obtain ⟨hx6, hq0, hq1, hq2, hq3, hFa, hNs, hSc, hDi, hRf⟩ := hX
  refine lv_aload_n hx hb dX6_status_0 rfl (lv_at hl 0 rfl) ?_
  refine lv_iload_n hx hb dX6_status_1 rfl (lv_at hl 2 rfl) ?_
  refine va_csq (va_Run.run (va_runV (As := [.int id]) (rest := []) ⟨hx, hb, hml, hown, hts⟩ (c_X6_frameOf l dC dI cy G S s.heap.size x f n sc ia na d ka va id hX0) (cwV 1 hts gX6_status_X6_frameOf rfl rfl rfl (by decide +kernel) ⟨Nat.le_of_ble_eq_true rfl, Nat.le_of_ble_eq_true rfl⟩) (zpreV hK hP hD hN (zrecv6 hK hP hx6)) rfl rfl hl.1 rfl (lv_room (Nat.le_of_ble_eq_true rfl)) dX6_status_2 ⟨Nat.le_of_ble_eq_true rfl, Nat.le_of_ble_eq_true rfl⟩)) (fun r1 hr1 => ?_)
  rcases r1 with _ | y2
  · refine W.eq (g2 := F0 m 5 ls [.null]) rfl ?_
    refine lv_astoreN (lv' := [(5, .null), (0, .ref x), (1, .int v), (2, .int id), (3, .int b), (4, .int k)]) hx hb dX6_status_5 hl (by decide) rfl (fun ls hl => ?_)
    refine lv_iload_n hx hb dX6_status_7 rfl (lv_at hl 2 rfl) ?_
    refine vp_callSi (va_Run.run (va_runS (As := [.int v]) (rest := []) ⟨hx, hb, hml, hown, hts⟩ (c_X6_isNode l v) (va_cwS 1 hts gX6_status_X6_isNode rfl rfl rfl (by decide +kernel) ⟨Nat.le_of_ble_eq_true rfl, Nat.le_of_ble_eq_true rfl⟩) zpreS0 rfl rfl hl.1 rfl (lv_room (Nat.le_of_ble_eq_true rfl)) dX6_status_8 ⟨Nat.le_of_ble_eq_true rfl, Nat.le_of_ble_eq_true rfl⟩)) (fun r3 hr3 => ?_)
    refine lv_if_eq (tgt := 49) hx hb dX6_status_11 (by decide) (fun c4 => ?_) (fun c4 => ?_)
    · skip
      exact zthrowA hx hb hlt hown (hts (.classLink RX6 55 "java/lang/IllegalArgumentException") (by decide +kernel)) (hts (.initialized "java/lang/IllegalArgumentException") (by decide +kernel)) (fun w h => hts w (List.mem_cons_of_mem _ (List.mem_append_right _ h))) hE (zEt_91 hE.2.2.2) hP hD hK hS (by rw [hml]; exact hl.1) dX6_status_49 dX6_status_52 dX6_status_53 dX6_status_55 dX6_status_58 hxt (Nat.le_of_ble_eq_true rfl) (Nat.le_of_ble_eq_true rfl) (Nat.le_of_ble_eq_true rfl) (Nat.le_of_ble_eq_true rfl) hlocks (fun t hB hF => ⟨(), trivial, ⟨⟨rfl, none, hr1, rfl⟩, hB⟩, hF⟩) hS.2.2 (Nat.le_of_ble_eq_true rfl) (Nat.le_of_ble_eq_true rfl)
    · skip
      obtain ⟨j8, hj8, rfl⟩ := zin8n hr3 c4
      refine lv_aloadN hx hb dX6_status_14 (lv_at hl 0 rfl) ?_
      refine lv_ifnullN (tgt := 49) hx hb dX6_status_16 (by decide) ?_
      exact zthrowA hx hb hlt hown (hts (.classLink RX6 55 "java/lang/IllegalArgumentException") (by decide +kernel)) (hts (.initialized "java/lang/IllegalArgumentException") (by decide +kernel)) (fun w h => hts w (List.mem_cons_of_mem _ (List.mem_append_right _ h))) hE (zEt_91 hE.2.2.2) hP hD hK hS (by rw [hml]; exact hl.1) dX6_status_49 dX6_status_52 dX6_status_53 dX6_status_55 dX6_status_58 hxt (Nat.le_of_ble_eq_true rfl) (Nat.le_of_ble_eq_true rfl) (Nat.le_of_ble_eq_true rfl) (Nat.le_of_ble_eq_true rfl) hlocks (fun t hB hF => ⟨(), trivial, ⟨⟨rfl, none, hr1, rfl⟩, hB⟩, hF⟩) hS.2.2 (Nat.le_of_ble_eq_true rfl) (Nat.le_of_ble_eq_true rfl)
  · refine W.eq (g2 := F0 m 5 ls [.ref y2]) rfl ?_
    obtain ⟨j8, hj9, ej10, eq11⟩ := zfo_some hr1
    obtain ⟨k5, t6, hF7⟩ := hFa.2.2 j8 y2 hj9 eq11.symm
    refine lv_astore (lv' := [(5, .ref y2), (0, .ref x), (1, .int v), (2, .int id), (3, .int b), (4, .int k)]) hx hb dX6_status_5 hl (by decide) rfl (fun ls hl => ?_)
    refine lv_iload_n hx hb dX6_status_7 rfl (lv_at hl 2 rfl) ?_
    refine vp_callSi (va_Run.run (va_runS (As := [.int v]) (rest := []) ⟨hx, hb, hml, hown, hts⟩ (c_X6_isNode l v) (va_cwS 1 hts gX6_status_X6_isNode rfl rfl rfl (by decide +kernel) ⟨Nat.le_of_ble_eq_true rfl, Nat.le_of_ble_eq_true rfl⟩) zpreS0 rfl rfl hl.1 rfl (lv_room (Nat.le_of_ble_eq_true rfl)) dX6_status_8 ⟨Nat.le_of_ble_eq_true rfl, Nat.le_of_ble_eq_true rfl⟩)) (fun r12 hr12 => ?_)
    refine lv_if_eq (tgt := 49) hx hb dX6_status_11 (by decide) (fun c13 => ?_) (fun c13 => ?_)
    · skip
      exact zthrowA hx hb hlt hown (hts (.classLink RX6 55 "java/lang/IllegalArgumentException") (by decide +kernel)) (hts (.initialized "java/lang/IllegalArgumentException") (by decide +kernel)) (fun w h => hts w (List.mem_cons_of_mem _ (List.mem_append_right _ h))) hE (zEt_91 hE.2.2.2) hP hD hK hS (by rw [hml]; exact hl.1) dX6_status_49 dX6_status_52 dX6_status_53 dX6_status_55 dX6_status_58 hxt (Nat.le_of_ble_eq_true rfl) (Nat.le_of_ble_eq_true rfl) (Nat.le_of_ble_eq_true rfl) (Nat.le_of_ble_eq_true rfl) hlocks (fun t hB hF => ⟨(), trivial, ⟨⟨rfl, (some y2), hr1, if_pos (Or.inl (zin8b hr12 c13))⟩, hB⟩, hF⟩) hS.2.2 (Nat.le_of_ble_eq_true rfl) (Nat.le_of_ble_eq_true rfl)
    · skip
      obtain ⟨j8, hj8, rfl⟩ := zin8n hr12 c13
      refine lv_aload hx hb dX6_status_14 (lv_at hl 0 rfl) ?_
      refine lv_ifnull hx hb dX6_status_16 ?_
      refine lv_aload hx hb dX6_status_19 (lv_at hl 0 rfl) ?_
      refine zget (ci := 1) (C := RX1) (T := TX1) (N := 9) hx hb hts hi1 hown hK hP hF7.1 rfl rfl 2 (by decide) (hts (.fieldLink RX6 74 "LinCluster$Frame" "publisher" "I") (by decide +kernel)) (fun _ h9 => h9) rfl dX6_status_21 ?_
      refine lv_topi (fun v14 ev14 => ?_)
      refine lv_iload_n hx hb dX6_status_24 rfl (lv_at hl 2 rfl) ?_
      refine lv_icmp_ne (tgt := 49) hx hb dX6_status_25 (by decide) (fun c15 => ?_) (fun c15 => ?_)
      · skip
        exact zthrowA hx hb hlt hown (hts (.classLink RX6 55 "java/lang/IllegalArgumentException") (by decide +kernel)) (hts (.initialized "java/lang/IllegalArgumentException") (by decide +kernel)) (fun w h => hts w (List.mem_cons_of_mem _ (List.mem_append_right _ h))) hE (zEt_91 hE.2.2.2) hP hD hK hS (by rw [hml]; exact hl.1) dX6_status_49 dX6_status_52 dX6_status_53 dX6_status_55 dX6_status_58 hxt (Nat.le_of_ble_eq_true rfl) (Nat.le_of_ble_eq_true rfl) (Nat.le_of_ble_eq_true rfl) (Nat.le_of_ble_eq_true rfl) hlocks (fun t hB hF => ⟨(), trivial, ⟨⟨rfl, (some y2), hr1, if_pos (Or.inr (Or.inl (fun z9 => c15 (ev14.trans z9))))⟩, hB⟩, hF⟩) hS.2.2 (Nat.le_of_ble_eq_true rfl) (Nat.le_of_ble_eq_true rfl)
      · skip
        refine lv_aload hx hb dX6_status_28 (lv_at hl 0 rfl) ?_
        refine lv_iload_n hx hb dX6_status_30 rfl (lv_at hl 4 rfl) ?_
        refine vp_callSi (va_Run.run (va_runV (As := [.int b]) (rest := []) ⟨hx, hb, hml, hown, hts⟩ (c_X1_hasByte l dC dI cy G S s.heap.size y2 b hF7.1) (cwV 1 hts gX6_status_X1_hasByte rfl rfl rfl (by decide +kernel) ⟨Nat.le_of_ble_eq_true rfl, Nat.le_of_ble_eq_true rfl⟩) (zpreV hK hP hD hN (zrecv1 hK hP hF7.1)) rfl rfl hl.1 rfl (lv_room (Nat.le_of_ble_eq_true rfl)) dX6_status_31 ⟨Nat.le_of_ble_eq_true rfl, Nat.le_of_ble_eq_true rfl⟩)) (fun r16 hr16 => ?_)
        refine lv_if_eq (tgt := 49) hx hb dX6_status_34 (by decide) (fun c17 => ?_) (fun c17 => ?_)
        · skip
          exact zthrowA hx hb hlt hown (hts (.classLink RX6 55 "java/lang/IllegalArgumentException") (by decide +kernel)) (hts (.initialized "java/lang/IllegalArgumentException") (by decide +kernel)) (fun w h => hts w (List.mem_cons_of_mem _ (List.mem_append_right _ h))) hE (zEt_91 hE.2.2.2) hP hD hK hS (by rw [hml]; exact hl.1) dX6_status_49 dX6_status_52 dX6_status_53 dX6_status_55 dX6_status_58 hxt (Nat.le_of_ble_eq_true rfl) (Nat.le_of_ble_eq_true rfl) (Nat.le_of_ble_eq_true rfl) (Nat.le_of_ble_eq_true rfl) hlocks (fun t hB hF => ⟨(), trivial, ⟨⟨rfl, (some y2), hr1, if_pos (Or.inr (Or.inr (Or.inl (zhas0 hr16 c17))))⟩, hB⟩, hF⟩) hS.2.2 (Nat.le_of_ble_eq_true rfl) (Nat.le_of_ble_eq_true rfl)
        · skip
          refine lv_iload hx hb dX6_status_37 (lv_at hl 5 rfl) ?_
          refine lv_if_lt (tgt := 49) hx hb dX6_status_39 (by decide) (fun c18 => ?_) (fun c18 => ?_)
          · skip
            exact zthrowA hx hb hlt hown (hts (.classLink RX6 55 "java/lang/IllegalArgumentException") (by decide +kernel)) (hts (.initialized "java/lang/IllegalArgumentException") (by decide +kernel)) (fun w h => hts w (List.mem_cons_of_mem _ (List.mem_append_right _ h))) hE (zEt_91 hE.2.2.2) hP hD hK hS (by rw [hml]; exact hl.1) dX6_status_49 dX6_status_52 dX6_status_53 dX6_status_55 dX6_status_58 hxt (Nat.le_of_ble_eq_true rfl) (Nat.le_of_ble_eq_true rfl) (Nat.le_of_ble_eq_true rfl) (Nat.le_of_ble_eq_true rfl) hlocks (fun t hB hF => ⟨(), trivial, ⟨⟨rfl, (some y2), hr1, if_pos (Or.inr (Or.inr (Or.inr (Or.inl c18))))⟩, hB⟩, hF⟩) hS.2.2 (Nat.le_of_ble_eq_true rfl) (Nat.le_of_ble_eq_true rfl)
          · skip
            refine lv_iload hx hb dX6_status_42 (lv_at hl 5 rfl) ?_
            refine lv_bipush (v := 7) hx hb dX6_status_44 (by decide) ?_
            refine lv_icmp_le (tgt := 59) hx hb dX6_status_46 (by decide) (fun c19 => ?_) (fun c19 => ?_)
            · skip
              refine lv_aload_n hx hb dX6_status_59 rfl (lv_at hl 1 rfl) ?_
              refine zget (ci := 6) (C := RX6) (T := TX6) (N := 7) hx hb hts hi6 hown hK hP hx6 rfl rfl 1 (by decide) (hts (.fieldLink RX6 17 "LinCluster" "nodes" "[LLinCluster$Node;") (by decide +kernel)) (fun _ h9 => h9) (v := .ref n) (congrArg (fun z => some (va_rf z)) (hst.q hx6.2 rfl hq1)) dX6_status_60 ?_
              refine lv_iload_n hx hb dX6_status_63 rfl (lv_at hl 2 rfl) ?_
              refine znald hx hb hK hP hNs.1 hNs.2.1 (vp_in_nI (n := j8) (by omega) (by omega)) dX6_status_64 ?_
              obtain ⟨nd20, i21, r22, hq23, hNd24⟩ := hNs.2.2 j8 hj8
              rw [nI_clamp (n := j8) (by omega), hst.q hNs.1.2 rfl hq23]
              refine W.eq (g2 := F0 m 65 ls [.ref nd20]) rfl ?_
              refine lv_aload hx hb dX6_status_65 (lv_at hl 0 rfl) ?_
              refine lv_iload_n hx hb dX6_status_67 rfl (lv_at hl 4 rfl) ?_
              refine lv_iload hx hb dX6_status_68 (lv_at hl 5 rfl) ?_
              refine zcallv (va_runV (As := [.ref y2, .int b, .int k]) (rest := []) ⟨hx, hb, hml, hown, hts⟩ (c_X3_putStatus l dC dI cy G S s.heap.size nd20 y2 b k hNd24.1) (cwV 3 hts gX6_status_X3_putStatus rfl rfl rfl (by decide +kernel) ⟨Nat.le_of_ble_eq_true rfl, Nat.le_of_ble_eq_true rfl⟩) (zpreV hK hP hD hN (zrecv3 hK hP hNd24.1)) rfl rfl hl.1 rfl (lv_room (Nat.le_of_ble_eq_true rfl)) dX6_status_70 ⟨Nat.le_of_ble_eq_true rfl, Nat.le_of_ble_eq_true rfl⟩) hS hD hA (fun S26 H locs hr25 hP hD hS => ?_)
              have hst := hst.trans hr25
              refine W.widen (k := 1) (n := 6) (Nat.le_of_ble_eq_true rfl) (Nat.le_of_ble_eq_true rfl) ?_
              refine vx_ret ?_
              exact W.vret hx hb hr (fun t ht hW => ⟨⟨S26, rfl, ⟨(some y2), hr1, if_neg (fun z9 => z9.elim (zn8 hj8) (fun z8 => z8.elim (fun z7 => z7 (ev14.symm.trans c15)) (fun z7 => z7.elim (zhas1 hr16 c17) (fun z6 => z6.elim c18 (fun z5 => z5 c19))))), hst⟩, by rw [ht]; exact hP, va_K.moved hW.alike hK, hD⟩, hS.F ht⟩) hS.2.2 dX6_status_73
            · skip
              exact zthrowA hx hb hlt hown (hts (.classLink RX6 55 "java/lang/IllegalArgumentException") (by decide +kernel)) (hts (.initialized "java/lang/IllegalArgumentException") (by decide +kernel)) (fun w h => hts w (List.mem_cons_of_mem _ (List.mem_append_right _ h))) hE (zEt_91 hE.2.2.2) hP hD hK hS (by rw [hml]; exact hl.1) dX6_status_49 dX6_status_52 dX6_status_53 dX6_status_55 dX6_status_58 hxt (Nat.le_of_ble_eq_true rfl) (Nat.le_of_ble_eq_true rfl) (Nat.le_of_ble_eq_true rfl) (Nat.le_of_ble_eq_true rfl) hlocks (fun t hB hF => ⟨(), trivial, ⟨⟨rfl, (some y2), hr1, if_pos (Or.inr (Or.inr (Or.inr (Or.inr c19))))⟩, hB⟩, hF⟩) hS.2.2 (Nat.le_of_ble_eq_true rfl) (Nat.le_of_ble_eq_true rfl)
set_option maxHeartbeats 4000000 in
set_option maxRecDepth 100000 in
theorem x_X6_slot (l : Launch) (hlt : l.stackTraces = false) (dC : Nat → ClassId) (dI : Nat → Nat → Nat) (cy : Nat → ClassId) (G : zG) (S : zS) (sz : Nat) (x f n sc ia na d ka va : Nat) (id b : Int32) (hX : zX G S x f n sc ia na d ka va) (hsl : ∃ q, q ≤ 16 ∧ S.1 sc 2 = nI q) : vx_Met l yX6_slot wsX6_slot ({ frames := 6, cells := 1, slots := 6, locals := 82 }) (zPx dC dI cy [.ref x, .int id, .int b] G S sz) (va_Qi (fun (r : Int32) S' => ∃ q, zfo S f id q ∧ kSlot (S.1 x 4) (S.1 sc 2) (zfv S q) b = 0 ∧ r = S.1 sc 2 ∧ ∃ T, zSt G S T ∧ S' = zpi T sc 2 (S.1 sc 2 + 1)) (zB dC dI cy (zA cy G S sz) G) (zA cy G S sz)) (vx_X (fun _ : Unit => True) (fun E _ t => ((E = "java/lang/IllegalArgumentException" ∧ ∃ q, zfo S f id q ∧ kSlot (S.1 x 4) (S.1 sc 2) (zfv S q) b = 1) ∨ (E = "java/lang/IllegalStateException" ∧ ∃ q, zfo S f id q ∧ kSlot (S.1 x 4) (S.1 sc 2) (zfv S q) b = 2)) ∧ zB dC dI cy (zA cy G S sz) G S t) (zA cy G S sz)) 1 6 (zA cy G S sz) := by
  refine vx_ofW (cc := cX6_slot) (maxL := 3) (ret := (some .int)) (by decide) rfl ?_
  intro p e s m args below meth c s₁ B hml hxt hv
  obtain ⟨rfl, ⟨hsz, hP, hK, hD0, hN⟩, hE⟩ := hv
  have hx := B.exec
  have hb := B.bytes
  have hr := B.returns
  have hts := atoms_spec (ws := wsX6_slot) B.pre
  have hown : s.vm.findClass RX6 = some m.cls := findClass_of_methodNamed B.named
  have hlocks := B.notSynchronized
  subst hsz
  have hD : va_D (zA cy G S s.heap.size) (zW cy G S) := hD0.self
  generalize hAe : zA cy G S s.heap.size = A at hD hE ⊢
  have hA : ∀ q : Nat, s.heap.size ≤ q → A q := fun q h => by rw [← hAe]; exact Or.inr h
  have hS : va_S A s.heap s.heap [] := va_S.rf
  have hst := zSt.refl G S
  have hl := lv_entry ([.ref x, .int id, .int b]) (n := 3) (Nat.le_of_ble_eq_true rfl)
  rw [lg_entry_eq]
  generalize (lg_sl ([.ref x, .int id, .int b]) ++ List.replicate (3 - (lg_sl ([.ref x, .int id, .int b])).length) Slot.unset).toArray = ls at hl ⊢
  have hl : lv_has ls 3 [(0, .ref x), (1, .int id), (2, .int b)] := hl
  have hi6 : ∀ w ∈ wsX60, w ∈ wsX6_slot := by decide +kernel
  have hX0 := hX
  obtain ⟨hx6, hq0, hq1, hq2, hq3, hFa, hNs, hSc, hDi, hRf⟩ := hX
  refine lv_aload_n hx hb dX6_slot_0 rfl (lv_at hl 0 rfl) ?_
  refine lv_iload_n hx hb dX6_slot_1 rfl (lv_at hl 1 rfl) ?_
  refine va_csq (va_Run.run (va_runV (As := [.int id]) (rest := []) ⟨hx, hb, hml, hown, hts⟩ (c_X6_frameOf l dC dI cy G S s.heap.size x f n sc ia na d ka va id hX0) (cwV 1 hts gX6_slot_X6_frameOf rfl rfl rfl (by decide +kernel) ⟨Nat.le_of_ble_eq_true rfl, Nat.le_of_ble_eq_true rfl⟩) (zpreV hK hP hD hN (zrecv6 hK hP hx6)) rfl rfl hl.1 rfl (lv_room (Nat.le_of_ble_eq_true rfl)) dX6_slot_2 ⟨Nat.le_of_ble_eq_true rfl, Nat.le_of_ble_eq_true rfl⟩)) (fun r1 hr1 => ?_)
  rcases r1 with _ | y2
  · refine W.eq (g2 := F0 m 5 ls [.null]) rfl ?_
    refine lv_ifnullN (tgt := 21) hx hb dX6_slot_5 (by decide) ?_
    exact zthrowA hx hb hlt hown (hts (.classLink RX6 55 "java/lang/IllegalArgumentException") (by decide +kernel)) (hts (.initialized "java/lang/IllegalArgumentException") (by decide +kernel)) (fun w h => hts w (List.mem_cons_of_mem _ (List.mem_append_left _ (List.mem_append_right _ h)))) hE (zEt_103 hE.2.2.2) hP hD hK hS (by rw [hml]; exact hl.1) dX6_slot_21 dX6_slot_24 dX6_slot_25 dX6_slot_27 dX6_slot_30 hxt (Nat.le_of_ble_eq_true rfl) (Nat.le_of_ble_eq_true rfl) (Nat.le_of_ble_eq_true rfl) (Nat.le_of_ble_eq_true rfl) hlocks (fun t hB hF => ⟨(), trivial, ⟨(Or.inl ⟨rfl, none, hr1, rfl⟩), hB⟩, hF⟩) hS.2.2 (Nat.le_of_ble_eq_true rfl) (Nat.le_of_ble_eq_true rfl)
  · refine W.eq (g2 := F0 m 5 ls [.ref y2]) rfl ?_
    obtain ⟨j6, hj7, ej8, eq9⟩ := zfo_some hr1
    obtain ⟨k3, t4, hF5⟩ := hFa.2.2 j6 y2 hj7 eq9.symm
    refine lv_ifnull hx hb dX6_slot_5 ?_
    refine lv_iload_n hx hb dX6_slot_8 rfl (lv_at hl 2 rfl) ?_
    refine lv_bipush (v := 50) hx hb dX6_slot_9 (by decide) ?_
    refine lv_icmp_lt (tgt := 21) hx hb dX6_slot_11 (by decide) (fun c10 => ?_) (fun c10 => ?_)
    · skip
      exact zthrowA hx hb hlt hown (hts (.classLink RX6 55 "java/lang/IllegalArgumentException") (by decide +kernel)) (hts (.initialized "java/lang/IllegalArgumentException") (by decide +kernel)) (fun w h => hts w (List.mem_cons_of_mem _ (List.mem_append_left _ (List.mem_append_right _ h)))) hE (zEt_103 hE.2.2.2) hP hD hK hS (by rw [hml]; exact hl.1) dX6_slot_21 dX6_slot_24 dX6_slot_25 dX6_slot_27 dX6_slot_30 hxt (Nat.le_of_ble_eq_true rfl) (Nat.le_of_ble_eq_true rfl) (Nat.le_of_ble_eq_true rfl) (Nat.le_of_ble_eq_true rfl) hlocks (fun t hB hF => ⟨(), trivial, ⟨(Or.inl ⟨rfl, (some y2), hr1, if_pos (Or.inl c10)⟩), hB⟩, hF⟩) hS.2.2 (Nat.le_of_ble_eq_true rfl) (Nat.le_of_ble_eq_true rfl)
    · skip
      refine lv_iload_n hx hb dX6_slot_14 rfl (lv_at hl 2 rfl) ?_
      refine lv_sipush (v := 400) hx hb dX6_slot_15 (by decide) ?_
      refine lv_icmp_le (tgt := 31) hx hb dX6_slot_18 (by decide) (fun c11 => ?_) (fun c11 => ?_)
      · skip
        refine lv_aload_n hx hb dX6_slot_31 rfl (lv_at hl 0 rfl) ?_
        refine zget (ci := 6) (C := RX6) (T := TX6) (N := 7) hx hb hts hi6 hown hK hP hx6 rfl rfl 4 (by decide) (hts (.fieldLink RX6 35 "LinCluster" "time" "I") (by decide +kernel)) (fun _ h9 => h9) rfl dX6_slot_32 ?_
        refine lv_topi (fun v12 ev12 => ?_)
        refine lv_if_gt (tgt := 48) hx hb dX6_slot_35 (by decide) (fun c13 => ?_) (fun c13 => ?_)
        · skip
          exact zthrowS hx hb hlt hown (hts (.classLink RX6 62 "java/lang/IllegalStateException") (by decide +kernel)) (hts (.initialized "java/lang/IllegalStateException") (by decide +kernel)) (fun w h => hts w (List.mem_cons_of_mem _ (List.mem_append_right _ h))) hE (zEt_109 hE.2.2.2) hP hD hK hS (by rw [hml]; exact hl.1) dX6_slot_48 dX6_slot_51 dX6_slot_52 dX6_slot_54 dX6_slot_57 hxt (Nat.le_of_ble_eq_true rfl) (Nat.le_of_ble_eq_true rfl) (Nat.le_of_ble_eq_true rfl) (Nat.le_of_ble_eq_true rfl) hlocks (fun t hB hF => ⟨(), trivial, ⟨(Or.inr ⟨rfl, (some y2), hr1, by show (if _ then _ else if _ then _ else _ : Int32) = 2; rw [if_neg (fun z9 => z9.elim c10 (fun z8 => z8 c11)), if_pos (Or.inl (by rw [← ev12]; exact c13))]⟩), hB⟩, hF⟩) hS.2.2 (Nat.le_of_ble_eq_true rfl) (Nat.le_of_ble_eq_true rfl)
        · skip
          refine lv_aload_n hx hb dX6_slot_38 rfl (lv_at hl 0 rfl) ?_
          refine zget (ci := 6) (C := RX6) (T := TX6) (N := 7) hx hb hts hi6 hown hK hP hx6 rfl rfl 2 (by decide) (hts (.fieldLink RX6 24 "LinCluster" "schedule" "LLinCluster$Schedule;") (by decide +kernel)) (fun _ h9 => h9) (v := .ref sc) (congrArg (fun z => some (va_rf z)) (hst.q hx6.2 rfl hq2)) dX6_slot_39 ?_
          refine vp_callSi (va_Run.run (va_runV (As := []) (rest := []) ⟨hx, hb, hml, hown, hts⟩ (c_X5_isFull l dC dI cy G S s.heap.size sc hSc.1) (cwV 0 hts gX6_slot_X5_isFull rfl rfl rfl (by decide +kernel) ⟨Nat.le_of_ble_eq_true rfl, Nat.le_of_ble_eq_true rfl⟩) (zpreV hK hP hD hN (zrecv5 hK hP hSc.1)) rfl rfl hl.1 rfl (lv_room (Nat.le_of_ble_eq_true rfl)) dX6_slot_42 ⟨Nat.le_of_ble_eq_true rfl, Nat.le_of_ble_eq_true rfl⟩)) (fun r14 hr14 => ?_)
          refine lv_if_eq (tgt := 58) hx hb dX6_slot_45 (by decide) (fun c15 => ?_) (fun c15 => ?_)
          · skip
            have hlt9 : S.1 sc 2 < 16 := hr14.elim (fun z9 => absurd (z9.1.symm.trans c15) (by decide)) (fun z9 => z9.2)
            obtain ⟨q8, hq8, eq8⟩ : ∃ q, q < 16 ∧ S.1 sc 2 = nI q := by
              obtain ⟨q, hq, eq⟩ := hsl
              exact ⟨q, (nI_ltI (a := q) (b := 16) (by omega) (by omega)).mp (by rw [← eq]; exact hlt9), eq⟩
            refine lv_aload_n hx hb dX6_slot_58 rfl (lv_at hl 0 rfl) ?_
            refine zget (ci := 6) (C := RX6) (T := TX6) (N := 7) hx hb hts hi6 hown hK hP hx6 rfl rfl 2 (by decide) (hts (.fieldLink RX6 24 "LinCluster" "schedule" "LLinCluster$Schedule;") (by decide +kernel)) (fun _ h9 => h9) (v := .ref sc) (congrArg (fun z => some (va_rf z)) (hst.q hx6.2 rfl hq2)) dX6_slot_59 ?_
            refine lv_iload_n hx hb dX6_slot_62 rfl (lv_at hl 1 rfl) ?_
            refine lv_iload_n hx hb dX6_slot_63 rfl (lv_at hl 2 rfl) ?_
            refine zcalli (va_runV (As := [.int id, .int b]) (rest := []) ⟨hx, hb, hml, hown, hts⟩ (c_X5_addSlot l dC dI cy G S s.heap.size sc ia na q8 id b hSc hq8 eq8) (cwV 2 hts gX6_slot_X5_addSlot rfl rfl rfl (by decide +kernel) ⟨Nat.le_of_ble_eq_true rfl, Nat.le_of_ble_eq_true rfl⟩) (zpreV hK hP hD hN (zrecv5 hK hP hSc.1)) rfl rfl hl.1 rfl (lv_room (Nat.le_of_ble_eq_true rfl)) dX6_slot_64 ⟨Nat.le_of_ble_eq_true rfl, Nat.le_of_ble_eq_true rfl⟩) hS hD hA (fun r16 S17 H locs hr16 hP hD hS => ?_)
            refine W.widen (k := 1) (n := 6) (Nat.le_of_ble_eq_true rfl) (Nat.le_of_ble_eq_true rfl) ?_
            refine vx_ret ?_
            exact W.iret (v := r16) hx hb hr (fun t ht hW => ⟨⟨r16, S17, rfl, ⟨(some y2), hr1, by show (if _ then _ else if _ then _ else _ : Int32) = 0; rw [if_neg (fun z9 => z9.elim c10 (fun z8 => z8 c11)), if_neg (fun z9 => z9.elim (fun z8 => c13 (by rw [ev12]; exact z8)) (fun z8 => z8 hlt9))], by rw [eq8]; exact hr16.1, by rw [eq8, nI_1]; exact hr16.2⟩, by rw [ht]; exact hP, va_K.moved hW.alike hK, hD⟩, hS.F ht⟩) hS.2.2 dX6_slot_67
          · skip
            exact zthrowS hx hb hlt hown (hts (.classLink RX6 62 "java/lang/IllegalStateException") (by decide +kernel)) (hts (.initialized "java/lang/IllegalStateException") (by decide +kernel)) (fun w h => hts w (List.mem_cons_of_mem _ (List.mem_append_right _ h))) hE (zEt_109 hE.2.2.2) hP hD hK hS (by rw [hml]; exact hl.1) dX6_slot_48 dX6_slot_51 dX6_slot_52 dX6_slot_54 dX6_slot_57 hxt (Nat.le_of_ble_eq_true rfl) (Nat.le_of_ble_eq_true rfl) (Nat.le_of_ble_eq_true rfl) (Nat.le_of_ble_eq_true rfl) hlocks (fun t hB hF => ⟨(), trivial, ⟨(Or.inr ⟨rfl, (some y2), hr1, by show (if _ then _ else if _ then _ else _ : Int32) = 2; rw [if_neg (fun z9 => z9.elim c10 (fun z8 => z8 c11)), if_pos (Or.inr (hr14.elim (fun z9 => z9.2) (fun z9 => absurd z9.1 c15)))]⟩), hB⟩, hF⟩) hS.2.2 (Nat.le_of_ble_eq_true rfl) (Nat.le_of_ble_eq_true rfl)
      · skip
        exact zthrowA hx hb hlt hown (hts (.classLink RX6 55 "java/lang/IllegalArgumentException") (by decide +kernel)) (hts (.initialized "java/lang/IllegalArgumentException") (by decide +kernel)) (fun w h => hts w (List.mem_cons_of_mem _ (List.mem_append_left _ (List.mem_append_right _ h)))) hE (zEt_103 hE.2.2.2) hP hD hK hS (by rw [hml]; exact hl.1) dX6_slot_21 dX6_slot_24 dX6_slot_25 dX6_slot_27 dX6_slot_30 hxt (Nat.le_of_ble_eq_true rfl) (Nat.le_of_ble_eq_true rfl) (Nat.le_of_ble_eq_true rfl) (Nat.le_of_ble_eq_true rfl) hlocks (fun t hB hF => ⟨(), trivial, ⟨(Or.inl ⟨rfl, (some y2), hr1, if_pos (Or.inr c11)⟩), hB⟩, hF⟩) hS.2.2 (Nat.le_of_ble_eq_true rfl) (Nat.le_of_ble_eq_true rfl)
set_option maxHeartbeats 4000000 in
set_option maxRecDepth 100000 in
theorem x_X6_write (l : Launch) (hlt : l.stackTraces = false) (dC : Nat → ClassId) (dI : Nat → Nat → Nat) (cy : Nat → ClassId) (G : zG) (S : zS) (sz : Nat) (x f n sc ia na d ka va : Nat) (id b v : Int32) (hX : zX G S x f n sc ia na d ka va)  : vx_Met l yX6_write wsX6_write ({ frames := 6, cells := 1, slots := 6, locals := 82 }) (zPx dC dI cy [.ref x, .int id, .int b, .int v] G S sz) (va_Qi (fun (r : Int32) S' => ∃ y, zfo S f id (some y) ∧ zO G y 1 ∧ kWrite (zfv S (some y)) b v = 0 ∧ r = zbyte (S.2.1 y 5) b ∧ S' = zpj S y 5 (S.2.1 y 5 ^^^ ((zbyte (S.2.1 y 5) b ^^^ v).toInt64 <<< ((8 * b).toInt64 &&& 63)))) (zB dC dI cy (zA cy G S sz) G) (zA cy G S sz)) (vx_X (fun _ : Unit => True) (fun E _ t => (E = "java/lang/IllegalArgumentException" ∧ ∃ q, zfo S f id q ∧ kWrite (zfv S q) b v = 1) ∧ zB dC dI cy (zA cy G S sz) G S t) (zA cy G S sz)) 1 6 (zA cy G S sz) := by
  refine vx_ofW (cc := cX6_write) (maxL := 5) (ret := (some .int)) (by decide) rfl ?_
  intro p e s m args below meth c s₁ B hml hxt hv
  obtain ⟨rfl, ⟨hsz, hP, hK, hD0, hN⟩, hE⟩ := hv
  have hx := B.exec
  have hb := B.bytes
  have hr := B.returns
  have hts := atoms_spec (ws := wsX6_write) B.pre
  have hown : s.vm.findClass RX6 = some m.cls := findClass_of_methodNamed B.named
  have hlocks := B.notSynchronized
  subst hsz
  have hD : va_D (zA cy G S s.heap.size) (zW cy G S) := hD0.self
  generalize hAe : zA cy G S s.heap.size = A at hD hE ⊢
  have hA : ∀ q : Nat, s.heap.size ≤ q → A q := fun q h => by rw [← hAe]; exact Or.inr h
  have hS : va_S A s.heap s.heap [] := va_S.rf
  have hst := zSt.refl G S
  have hl := lv_entry ([.ref x, .int id, .int b, .int v]) (n := 5) (Nat.le_of_ble_eq_true rfl)
  rw [lg_entry_eq]
  generalize (lg_sl ([.ref x, .int id, .int b, .int v]) ++ List.replicate (5 - (lg_sl ([.ref x, .int id, .int b, .int v])).length) Slot.unset).toArray = ls at hl ⊢
  have hl : lv_has ls 5 [(0, .ref x), (1, .int id), (2, .int b), (3, .int v)] := hl
  have hX0 := hX
  obtain ⟨hx6, hq0, hq1, hq2, hq3, hFa, hNs, hSc, hDi, hRf⟩ := hX
  refine lv_aload_n hx hb dX6_write_0 rfl (lv_at hl 0 rfl) ?_
  refine lv_iload_n hx hb dX6_write_1 rfl (lv_at hl 1 rfl) ?_
  refine va_csq (va_Run.run (va_runV (As := [.int id]) (rest := []) ⟨hx, hb, hml, hown, hts⟩ (c_X6_frameOf l dC dI cy G S s.heap.size x f n sc ia na d ka va id hX0) (cwV 1 hts gX6_write_X6_frameOf rfl rfl rfl (by decide +kernel) ⟨Nat.le_of_ble_eq_true rfl, Nat.le_of_ble_eq_true rfl⟩) (zpreV hK hP hD hN (zrecv6 hK hP hx6)) rfl rfl hl.1 rfl (lv_room (Nat.le_of_ble_eq_true rfl)) dX6_write_2 ⟨Nat.le_of_ble_eq_true rfl, Nat.le_of_ble_eq_true rfl⟩)) (fun r1 hr1 => ?_)
  rcases r1 with _ | y2
  · refine W.eq (g2 := F0 m 5 ls [.null]) rfl ?_
    refine lv_astoreN (lv' := [(4, .null), (0, .ref x), (1, .int id), (2, .int b), (3, .int v)]) hx hb dX6_write_5 hl (by decide) rfl (fun ls hl => ?_)
    refine lv_aloadN hx hb dX6_write_7 (lv_at hl 0 rfl) ?_
    refine lv_ifnullN (tgt := 32) hx hb dX6_write_9 (by decide) ?_
    exact zthrowA hx hb hlt hown (hts (.classLink RX6 55 "java/lang/IllegalArgumentException") (by decide +kernel)) (hts (.initialized "java/lang/IllegalArgumentException") (by decide +kernel)) (fun w h => hts w (List.mem_cons_of_mem _ (List.mem_append_right _ h))) hE (zEt_115 hE.2.2.2) hP hD hK hS (by rw [hml]; exact hl.1) dX6_write_32 dX6_write_35 dX6_write_36 dX6_write_38 dX6_write_41 hxt (Nat.le_of_ble_eq_true rfl) (Nat.le_of_ble_eq_true rfl) (Nat.le_of_ble_eq_true rfl) (Nat.le_of_ble_eq_true rfl) hlocks (fun t hB hF => ⟨(), trivial, ⟨⟨rfl, none, hr1, rfl⟩, hB⟩, hF⟩) hS.2.2 (Nat.le_of_ble_eq_true rfl) (Nat.le_of_ble_eq_true rfl)
  · refine W.eq (g2 := F0 m 5 ls [.ref y2]) rfl ?_
    obtain ⟨j6, hj7, ej8, eq9⟩ := zfo_some hr1
    obtain ⟨k3, t4, hF5⟩ := hFa.2.2 j6 y2 hj7 eq9.symm
    refine lv_astore (lv' := [(4, .ref y2), (0, .ref x), (1, .int id), (2, .int b), (3, .int v)]) hx hb dX6_write_5 hl (by decide) rfl (fun ls hl => ?_)
    refine lv_aload hx hb dX6_write_7 (lv_at hl 0 rfl) ?_
    refine lv_ifnull hx hb dX6_write_9 ?_
    refine lv_aload hx hb dX6_write_12 (lv_at hl 0 rfl) ?_
    refine lv_iload_n hx hb dX6_write_14 rfl (lv_at hl 3 rfl) ?_
    refine vp_callSi (va_Run.run (va_runV (As := [.int b]) (rest := []) ⟨hx, hb, hml, hown, hts⟩ (c_X1_hasByte l dC dI cy G S s.heap.size y2 b hF5.1) (cwV 1 hts gX6_write_X1_hasByte rfl rfl rfl (by decide +kernel) ⟨Nat.le_of_ble_eq_true rfl, Nat.le_of_ble_eq_true rfl⟩) (zpreV hK hP hD hN (zrecv1 hK hP hF5.1)) rfl rfl hl.1 rfl (lv_room (Nat.le_of_ble_eq_true rfl)) dX6_write_15 ⟨Nat.le_of_ble_eq_true rfl, Nat.le_of_ble_eq_true rfl⟩)) (fun r10 hr10 => ?_)
    refine lv_if_eq (tgt := 32) hx hb dX6_write_18 (by decide) (fun c11 => ?_) (fun c11 => ?_)
    · skip
      exact zthrowA hx hb hlt hown (hts (.classLink RX6 55 "java/lang/IllegalArgumentException") (by decide +kernel)) (hts (.initialized "java/lang/IllegalArgumentException") (by decide +kernel)) (fun w h => hts w (List.mem_cons_of_mem _ (List.mem_append_right _ h))) hE (zEt_115 hE.2.2.2) hP hD hK hS (by rw [hml]; exact hl.1) dX6_write_32 dX6_write_35 dX6_write_36 dX6_write_38 dX6_write_41 hxt (Nat.le_of_ble_eq_true rfl) (Nat.le_of_ble_eq_true rfl) (Nat.le_of_ble_eq_true rfl) (Nat.le_of_ble_eq_true rfl) hlocks (fun t hB hF => ⟨(), trivial, ⟨⟨rfl, (some y2), hr1, if_pos (Or.inl (zhas0 hr10 c11))⟩, hB⟩, hF⟩) hS.2.2 (Nat.le_of_ble_eq_true rfl) (Nat.le_of_ble_eq_true rfl)
    · skip
      refine lv_iload_n hx hb dX6_write_21 rfl (lv_at hl 4 rfl) ?_
      refine lv_if_lt (tgt := 32) hx hb dX6_write_22 (by decide) (fun c12 => ?_) (fun c12 => ?_)
      · skip
        exact zthrowA hx hb hlt hown (hts (.classLink RX6 55 "java/lang/IllegalArgumentException") (by decide +kernel)) (hts (.initialized "java/lang/IllegalArgumentException") (by decide +kernel)) (fun w h => hts w (List.mem_cons_of_mem _ (List.mem_append_right _ h))) hE (zEt_115 hE.2.2.2) hP hD hK hS (by rw [hml]; exact hl.1) dX6_write_32 dX6_write_35 dX6_write_36 dX6_write_38 dX6_write_41 hxt (Nat.le_of_ble_eq_true rfl) (Nat.le_of_ble_eq_true rfl) (Nat.le_of_ble_eq_true rfl) (Nat.le_of_ble_eq_true rfl) hlocks (fun t hB hF => ⟨(), trivial, ⟨⟨rfl, (some y2), hr1, if_pos (Or.inr (Or.inl c12))⟩, hB⟩, hF⟩) hS.2.2 (Nat.le_of_ble_eq_true rfl) (Nat.le_of_ble_eq_true rfl)
      · skip
        refine lv_iload_n hx hb dX6_write_25 rfl (lv_at hl 4 rfl) ?_
        refine lv_sipush (v := 255) hx hb dX6_write_26 (by decide) ?_
        refine lv_icmp_le (tgt := 42) hx hb dX6_write_29 (by decide) (fun c13 => ?_) (fun c13 => ?_)
        · skip
          refine lv_aload hx hb dX6_write_42 (lv_at hl 0 rfl) ?_
          refine lv_iload_n hx hb dX6_write_44 rfl (lv_at hl 3 rfl) ?_
          refine lv_iload_n hx hb dX6_write_45 rfl (lv_at hl 4 rfl) ?_
          refine zcalli (va_runV (As := [.int b, .int v]) (rest := []) ⟨hx, hb, hml, hown, hts⟩ (c_X1_changeByte l dC dI cy G S s.heap.size y2 b v hF5.1) (cwV 2 hts gX6_write_X1_changeByte rfl rfl rfl (by decide +kernel) ⟨Nat.le_of_ble_eq_true rfl, Nat.le_of_ble_eq_true rfl⟩) (zpreV hK hP hD hN (zrecv1 hK hP hF5.1)) rfl rfl hl.1 rfl (lv_room (Nat.le_of_ble_eq_true rfl)) dX6_write_46 ⟨Nat.le_of_ble_eq_true rfl, Nat.le_of_ble_eq_true rfl⟩) hS hD hA (fun r14 S15 H locs hr14 hP hD hS => ?_)
          refine W.widen (k := 1) (n := 6) (Nat.le_of_ble_eq_true rfl) (Nat.le_of_ble_eq_true rfl) ?_
          refine vx_ret ?_
          exact W.iret (v := r14) hx hb hr (fun t ht hW => ⟨⟨r14, S15, rfl, ⟨y2, hr1, hF5.1, if_neg (fun z9 => z9.elim (zhas1 hr10 c11) (fun z8 => z8.elim c12 (fun z7 => z7 c13))), hr14.1, hr14.2⟩, by rw [ht]; exact hP, va_K.moved hW.alike hK, hD⟩, hS.F ht⟩) hS.2.2 dX6_write_49
        · skip
          exact zthrowA hx hb hlt hown (hts (.classLink RX6 55 "java/lang/IllegalArgumentException") (by decide +kernel)) (hts (.initialized "java/lang/IllegalArgumentException") (by decide +kernel)) (fun w h => hts w (List.mem_cons_of_mem _ (List.mem_append_right _ h))) hE (zEt_115 hE.2.2.2) hP hD hK hS (by rw [hml]; exact hl.1) dX6_write_32 dX6_write_35 dX6_write_36 dX6_write_38 dX6_write_41 hxt (Nat.le_of_ble_eq_true rfl) (Nat.le_of_ble_eq_true rfl) (Nat.le_of_ble_eq_true rfl) (Nat.le_of_ble_eq_true rfl) hlocks (fun t hB hF => ⟨(), trivial, ⟨⟨rfl, (some y2), hr1, if_pos (Or.inr (Or.inr c13))⟩, hB⟩, hF⟩) hS.2.2 (Nat.le_of_ble_eq_true rfl) (Nat.le_of_ble_eq_true rfl)
set_option maxHeartbeats 4000000 in
set_option maxRecDepth 100000 in
theorem x_X6_byteAt (l : Launch) (hlt : l.stackTraces = false) (dC : Nat → ClassId) (dI : Nat → Nat → Nat) (cy : Nat → ClassId) (G : zG) (S : zS) (sz : Nat) (x f n sc ia na d ka va : Nat) (v id b : Int32) (hX : zX G S x f n sc ia na d ka va)  : vx_Met l yX6_byteAt wsX6_byteAt ({ frames := 6, cells := 1, slots := 6, locals := 82 }) (zPx dC dI cy [.ref x, .int v, .int id, .int b] G S sz) (va_Qi (fun (r : Int32) S' => S' = S ∧ ∃ y, zfo S f id (some y)) (zB dC dI cy (zA cy G S sz) G) (zA cy G S sz)) (vx_X (fun _ : Unit => True) (fun E _ t => (E = "java/lang/IllegalArgumentException") ∧ zB dC dI cy (zA cy G S sz) G S t) (zA cy G S sz)) 1 6 (zA cy G S sz) := by
  refine vx_ofW (cc := cX6_byteAt) (maxL := 5) (ret := (some .int)) (by decide) rfl ?_
  intro p e s m args below meth c s₁ B hml hxt hv
  obtain ⟨rfl, ⟨hsz, hP, hK, hD0, hN⟩, hE⟩ := hv
  have hx := B.exec
  have hb := B.bytes
  have hr := B.returns
  have hts := atoms_spec (ws := wsX6_byteAt) B.pre
  have hown : s.vm.findClass RX6 = some m.cls := findClass_of_methodNamed B.named
  have hlocks := B.notSynchronized
  subst hsz
  have hD : va_D (zA cy G S s.heap.size) (zW cy G S) := hD0.self
  generalize hAe : zA cy G S s.heap.size = A at hD hE ⊢
  have hA : ∀ q : Nat, s.heap.size ≤ q → A q := fun q h => by rw [← hAe]; exact Or.inr h
  have hS : va_S A s.heap s.heap [] := va_S.rf
  have hst := zSt.refl G S
  have hl := lv_entry ([.ref x, .int v, .int id, .int b]) (n := 5) (Nat.le_of_ble_eq_true rfl)
  rw [lg_entry_eq]
  generalize (lg_sl ([.ref x, .int v, .int id, .int b]) ++ List.replicate (5 - (lg_sl ([.ref x, .int v, .int id, .int b])).length) Slot.unset).toArray = ls at hl ⊢
  have hl : lv_has ls 5 [(0, .ref x), (1, .int v), (2, .int id), (3, .int b)] := hl
  have hX0 := hX
  obtain ⟨hx6, hq0, hq1, hq2, hq3, hFa, hNs, hSc, hDi, hRf⟩ := hX
  refine lv_aload_n hx hb dX6_byteAt_0 rfl (lv_at hl 0 rfl) ?_
  refine lv_iload_n hx hb dX6_byteAt_1 rfl (lv_at hl 2 rfl) ?_
  refine va_csq (va_Run.run (va_runV (As := [.int id]) (rest := []) ⟨hx, hb, hml, hown, hts⟩ (c_X6_frameOf l dC dI cy G S s.heap.size x f n sc ia na d ka va id hX0) (cwV 1 hts gX6_byteAt_X6_frameOf rfl rfl rfl (by decide +kernel) ⟨Nat.le_of_ble_eq_true rfl, Nat.le_of_ble_eq_true rfl⟩) (zpreV hK hP hD hN (zrecv6 hK hP hx6)) rfl rfl hl.1 rfl (lv_room (Nat.le_of_ble_eq_true rfl)) dX6_byteAt_2 ⟨Nat.le_of_ble_eq_true rfl, Nat.le_of_ble_eq_true rfl⟩)) (fun r1 hr1 => ?_)
  rcases r1 with _ | y2
  · refine W.eq (g2 := F0 m 5 ls [.null]) rfl ?_
    refine lv_astoreN (lv' := [(4, .null), (0, .ref x), (1, .int v), (2, .int id), (3, .int b)]) hx hb dX6_byteAt_5 hl (by decide) rfl (fun ls hl => ?_)
    refine lv_iload_n hx hb dX6_byteAt_7 rfl (lv_at hl 2 rfl) ?_
    refine vp_callSi (va_Run.run (va_runS (As := [.int v]) (rest := []) ⟨hx, hb, hml, hown, hts⟩ (c_X6_isNode l v) (va_cwS 1 hts gX6_byteAt_X6_isNode rfl rfl rfl (by decide +kernel) ⟨Nat.le_of_ble_eq_true rfl, Nat.le_of_ble_eq_true rfl⟩) zpreS0 rfl rfl hl.1 rfl (lv_room (Nat.le_of_ble_eq_true rfl)) dX6_byteAt_8 ⟨Nat.le_of_ble_eq_true rfl, Nat.le_of_ble_eq_true rfl⟩)) (fun r3 hr3 => ?_)
    refine lv_if_eq (tgt := 37) hx hb dX6_byteAt_11 (by decide) (fun c4 => ?_) (fun c4 => ?_)
    · skip
      exact zthrowA hx hb hlt hown (hts (.classLink RX6 55 "java/lang/IllegalArgumentException") (by decide +kernel)) (hts (.initialized "java/lang/IllegalArgumentException") (by decide +kernel)) (fun w h => hts w (List.mem_cons_of_mem _ (List.mem_append_right _ h))) hE (zEt_147 hE.2.2.2) hP hD hK hS (by rw [hml]; exact hl.1) dX6_byteAt_37 dX6_byteAt_40 dX6_byteAt_41 dX6_byteAt_43 dX6_byteAt_46 hxt (Nat.le_of_ble_eq_true rfl) (Nat.le_of_ble_eq_true rfl) (Nat.le_of_ble_eq_true rfl) (Nat.le_of_ble_eq_true rfl) hlocks (fun t hB hF => ⟨(), trivial, ⟨rfl, hB⟩, hF⟩) hS.2.2 (Nat.le_of_ble_eq_true rfl) (Nat.le_of_ble_eq_true rfl)
    · skip
      obtain ⟨j8, hj8, rfl⟩ := zin8n hr3 c4
      refine lv_aloadN hx hb dX6_byteAt_14 (lv_at hl 0 rfl) ?_
      refine lv_ifnullN (tgt := 37) hx hb dX6_byteAt_16 (by decide) ?_
      exact zthrowA hx hb hlt hown (hts (.classLink RX6 55 "java/lang/IllegalArgumentException") (by decide +kernel)) (hts (.initialized "java/lang/IllegalArgumentException") (by decide +kernel)) (fun w h => hts w (List.mem_cons_of_mem _ (List.mem_append_right _ h))) hE (zEt_147 hE.2.2.2) hP hD hK hS (by rw [hml]; exact hl.1) dX6_byteAt_37 dX6_byteAt_40 dX6_byteAt_41 dX6_byteAt_43 dX6_byteAt_46 hxt (Nat.le_of_ble_eq_true rfl) (Nat.le_of_ble_eq_true rfl) (Nat.le_of_ble_eq_true rfl) (Nat.le_of_ble_eq_true rfl) hlocks (fun t hB hF => ⟨(), trivial, ⟨rfl, hB⟩, hF⟩) hS.2.2 (Nat.le_of_ble_eq_true rfl) (Nat.le_of_ble_eq_true rfl)
  · refine W.eq (g2 := F0 m 5 ls [.ref y2]) rfl ?_
    obtain ⟨j8, hj9, ej10, eq11⟩ := zfo_some hr1
    obtain ⟨k5, t6, hF7⟩ := hFa.2.2 j8 y2 hj9 eq11.symm
    refine lv_astore (lv' := [(4, .ref y2), (0, .ref x), (1, .int v), (2, .int id), (3, .int b)]) hx hb dX6_byteAt_5 hl (by decide) rfl (fun ls hl => ?_)
    refine lv_iload_n hx hb dX6_byteAt_7 rfl (lv_at hl 2 rfl) ?_
    refine vp_callSi (va_Run.run (va_runS (As := [.int v]) (rest := []) ⟨hx, hb, hml, hown, hts⟩ (c_X6_isNode l v) (va_cwS 1 hts gX6_byteAt_X6_isNode rfl rfl rfl (by decide +kernel) ⟨Nat.le_of_ble_eq_true rfl, Nat.le_of_ble_eq_true rfl⟩) zpreS0 rfl rfl hl.1 rfl (lv_room (Nat.le_of_ble_eq_true rfl)) dX6_byteAt_8 ⟨Nat.le_of_ble_eq_true rfl, Nat.le_of_ble_eq_true rfl⟩)) (fun r12 hr12 => ?_)
    refine lv_if_eq (tgt := 37) hx hb dX6_byteAt_11 (by decide) (fun c13 => ?_) (fun c13 => ?_)
    · skip
      exact zthrowA hx hb hlt hown (hts (.classLink RX6 55 "java/lang/IllegalArgumentException") (by decide +kernel)) (hts (.initialized "java/lang/IllegalArgumentException") (by decide +kernel)) (fun w h => hts w (List.mem_cons_of_mem _ (List.mem_append_right _ h))) hE (zEt_147 hE.2.2.2) hP hD hK hS (by rw [hml]; exact hl.1) dX6_byteAt_37 dX6_byteAt_40 dX6_byteAt_41 dX6_byteAt_43 dX6_byteAt_46 hxt (Nat.le_of_ble_eq_true rfl) (Nat.le_of_ble_eq_true rfl) (Nat.le_of_ble_eq_true rfl) (Nat.le_of_ble_eq_true rfl) hlocks (fun t hB hF => ⟨(), trivial, ⟨rfl, hB⟩, hF⟩) hS.2.2 (Nat.le_of_ble_eq_true rfl) (Nat.le_of_ble_eq_true rfl)
    · skip
      obtain ⟨j8, hj8, rfl⟩ := zin8n hr12 c13
      refine lv_aload hx hb dX6_byteAt_14 (lv_at hl 0 rfl) ?_
      refine lv_ifnull hx hb dX6_byteAt_16 ?_
      refine lv_aload hx hb dX6_byteAt_19 (lv_at hl 0 rfl) ?_
      refine lv_iload_n hx hb dX6_byteAt_21 rfl (lv_at hl 2 rfl) ?_
      refine vp_callSi (va_Run.run (va_runV (As := [.int (nI j8)]) (rest := []) ⟨hx, hb, hml, hown, hts⟩ (c_X1_isKnownTo l dC dI cy G S s.heap.size y2 (nI j8) hF7.1) (cwV 1 hts gX6_byteAt_X1_isKnownTo rfl rfl rfl (by decide +kernel) ⟨Nat.le_of_ble_eq_true rfl, Nat.le_of_ble_eq_true rfl⟩) (zpreV hK hP hD hN (zrecv1 hK hP hF7.1)) rfl rfl hl.1 rfl (lv_room (Nat.le_of_ble_eq_true rfl)) dX6_byteAt_22 ⟨Nat.le_of_ble_eq_true rfl, Nat.le_of_ble_eq_true rfl⟩)) (fun r14 hr14 => ?_)
      refine lv_if_eq (tgt := 37) hx hb dX6_byteAt_25 (by decide) (fun c15 => ?_) (fun c15 => ?_)
      · skip
        exact zthrowA hx hb hlt hown (hts (.classLink RX6 55 "java/lang/IllegalArgumentException") (by decide +kernel)) (hts (.initialized "java/lang/IllegalArgumentException") (by decide +kernel)) (fun w h => hts w (List.mem_cons_of_mem _ (List.mem_append_right _ h))) hE (zEt_147 hE.2.2.2) hP hD hK hS (by rw [hml]; exact hl.1) dX6_byteAt_37 dX6_byteAt_40 dX6_byteAt_41 dX6_byteAt_43 dX6_byteAt_46 hxt (Nat.le_of_ble_eq_true rfl) (Nat.le_of_ble_eq_true rfl) (Nat.le_of_ble_eq_true rfl) (Nat.le_of_ble_eq_true rfl) hlocks (fun t hB hF => ⟨(), trivial, ⟨rfl, hB⟩, hF⟩) hS.2.2 (Nat.le_of_ble_eq_true rfl) (Nat.le_of_ble_eq_true rfl)
      · skip
        refine lv_aload hx hb dX6_byteAt_28 (lv_at hl 0 rfl) ?_
        refine lv_iload_n hx hb dX6_byteAt_30 rfl (lv_at hl 4 rfl) ?_
        refine vp_callSi (va_Run.run (va_runV (As := [.int b]) (rest := []) ⟨hx, hb, hml, hown, hts⟩ (c_X1_hasByte l dC dI cy G S s.heap.size y2 b hF7.1) (cwV 1 hts gX6_byteAt_X1_hasByte rfl rfl rfl (by decide +kernel) ⟨Nat.le_of_ble_eq_true rfl, Nat.le_of_ble_eq_true rfl⟩) (zpreV hK hP hD hN (zrecv1 hK hP hF7.1)) rfl rfl hl.1 rfl (lv_room (Nat.le_of_ble_eq_true rfl)) dX6_byteAt_31 ⟨Nat.le_of_ble_eq_true rfl, Nat.le_of_ble_eq_true rfl⟩)) (fun r16 hr16 => ?_)
        refine lv_if_ne (tgt := 47) hx hb dX6_byteAt_34 (by decide) (fun c17 => ?_) (fun c17 => ?_)
        · skip
          refine lv_aload hx hb dX6_byteAt_47 (lv_at hl 0 rfl) ?_
          refine lv_iload_n hx hb dX6_byteAt_49 rfl (lv_at hl 2 rfl) ?_
          refine vp_callSl (va_Run.run (va_runV (As := [.int (nI j8)]) (rest := []) ⟨hx, hb, hml, hown, hts⟩ (c_X1_bytesAt l dC dI cy G S s.heap.size y2 k5 t6 (nI j8) (hst.fr hF7)) (cwV 1 hts gX6_byteAt_X1_bytesAt rfl rfl rfl (by decide +kernel) ⟨Nat.le_of_ble_eq_true rfl, Nat.le_of_ble_eq_true rfl⟩) (zpreV hK hP hD hN (zrecv1 hK hP hF7.1)) rfl rfl hl.1 rfl (lv_room (Nat.le_of_ble_eq_true rfl)) dX6_byteAt_50 ⟨Nat.le_of_ble_eq_true rfl, Nat.le_of_ble_eq_true rfl⟩)) (fun r18 hr18 => ?_)
          refine lv_iload_n hx hb dX6_byteAt_53 rfl (lv_at hl 4 rfl) ?_
          refine vp_callSi (va_Run.run (va_runS (As := [.long r18, .int b]) (rest := []) ⟨hx, hb, hml, hown, hts⟩ (c_X6_byteOf_x l r18 b) (va_cwS 2 hts gX6_byteAt_X6_byteOf rfl rfl rfl (by decide +kernel) ⟨Nat.le_of_ble_eq_true rfl, Nat.le_of_ble_eq_true rfl⟩) zpreS0 rfl rfl hl.1 rfl (lv_room (Nat.le_of_ble_eq_true rfl)) dX6_byteAt_54 ⟨Nat.le_of_ble_eq_true rfl, Nat.le_of_ble_eq_true rfl⟩)) (fun r19 hr19 => ?_)
          refine W.widen (k := 1) (n := 6) (Nat.le_of_ble_eq_true rfl) (Nat.le_of_ble_eq_true rfl) ?_
          refine vx_ret ?_
          exact W.iret (v := r19) hx hb hr (fun t ht hW => ⟨⟨r19, S, rfl, ⟨rfl, y2, hr1⟩, by rw [ht]; exact hP, va_K.moved hW.alike hK, hD⟩, hS.F ht⟩) hS.2.2 dX6_byteAt_57
        · skip
          exact zthrowA hx hb hlt hown (hts (.classLink RX6 55 "java/lang/IllegalArgumentException") (by decide +kernel)) (hts (.initialized "java/lang/IllegalArgumentException") (by decide +kernel)) (fun w h => hts w (List.mem_cons_of_mem _ (List.mem_append_right _ h))) hE (zEt_147 hE.2.2.2) hP hD hK hS (by rw [hml]; exact hl.1) dX6_byteAt_37 dX6_byteAt_40 dX6_byteAt_41 dX6_byteAt_43 dX6_byteAt_46 hxt (Nat.le_of_ble_eq_true rfl) (Nat.le_of_ble_eq_true rfl) (Nat.le_of_ble_eq_true rfl) (Nat.le_of_ble_eq_true rfl) hlocks (fun t hB hF => ⟨(), trivial, ⟨rfl, hB⟩, hF⟩) hS.2.2 (Nat.le_of_ble_eq_true rfl) (Nat.le_of_ble_eq_true rfl)
set_option maxHeartbeats 4000000 in
set_option maxRecDepth 100000 in
theorem x_X6_taken (l : Launch) (hlt : l.stackTraces = false) (dC : Nat → ClassId) (dI : Nat → Nat → Nat) (cy : Nat → ClassId) (G : zG) (S : zS) (sz : Nat) (x f n sc ia na d ka va : Nat) (v id : Int32) (hX : zX G S x f n sc ia na d ka va)  : vx_Met l yX6_taken wsX6_taken ({ frames := 6, cells := 1, slots := 6, locals := 82 }) (zPx dC dI cy [.ref x, .int v, .int id] G S sz) (va_Qi (fun (r : Int32) S' => S' = S ∧ ∃ y, zfo S f id (some y)) (zB dC dI cy (zA cy G S sz) G) (zA cy G S sz)) (vx_X (fun _ : Unit => True) (fun E _ t => (E = "java/lang/IllegalArgumentException") ∧ zB dC dI cy (zA cy G S sz) G S t) (zA cy G S sz)) 1 6 (zA cy G S sz) := by
  refine vx_ofW (cc := cX6_taken) (maxL := 4) (ret := (some .int)) (by decide) rfl ?_
  intro p e s m args below meth c s₁ B hml hxt hv
  obtain ⟨rfl, ⟨hsz, hP, hK, hD0, hN⟩, hE⟩ := hv
  have hx := B.exec
  have hb := B.bytes
  have hr := B.returns
  have hts := atoms_spec (ws := wsX6_taken) B.pre
  have hown : s.vm.findClass RX6 = some m.cls := findClass_of_methodNamed B.named
  have hlocks := B.notSynchronized
  subst hsz
  have hD : va_D (zA cy G S s.heap.size) (zW cy G S) := hD0.self
  generalize hAe : zA cy G S s.heap.size = A at hD hE ⊢
  have hA : ∀ q : Nat, s.heap.size ≤ q → A q := fun q h => by rw [← hAe]; exact Or.inr h
  have hS : va_S A s.heap s.heap [] := va_S.rf
  have hst := zSt.refl G S
  have hl := lv_entry ([.ref x, .int v, .int id]) (n := 4) (Nat.le_of_ble_eq_true rfl)
  rw [lg_entry_eq]
  generalize (lg_sl ([.ref x, .int v, .int id]) ++ List.replicate (4 - (lg_sl ([.ref x, .int v, .int id])).length) Slot.unset).toArray = ls at hl ⊢
  have hl : lv_has ls 4 [(0, .ref x), (1, .int v), (2, .int id)] := hl
  have hX0 := hX
  obtain ⟨hx6, hq0, hq1, hq2, hq3, hFa, hNs, hSc, hDi, hRf⟩ := hX
  refine lv_aload_n hx hb dX6_taken_0 rfl (lv_at hl 0 rfl) ?_
  refine lv_iload_n hx hb dX6_taken_1 rfl (lv_at hl 2 rfl) ?_
  refine va_csq (va_Run.run (va_runV (As := [.int id]) (rest := []) ⟨hx, hb, hml, hown, hts⟩ (c_X6_frameOf l dC dI cy G S s.heap.size x f n sc ia na d ka va id hX0) (cwV 1 hts gX6_taken_X6_frameOf rfl rfl rfl (by decide +kernel) ⟨Nat.le_of_ble_eq_true rfl, Nat.le_of_ble_eq_true rfl⟩) (zpreV hK hP hD hN (zrecv6 hK hP hx6)) rfl rfl hl.1 rfl (lv_room (Nat.le_of_ble_eq_true rfl)) dX6_taken_2 ⟨Nat.le_of_ble_eq_true rfl, Nat.le_of_ble_eq_true rfl⟩)) (fun r1 hr1 => ?_)
  rcases r1 with _ | y2
  · refine W.eq (g2 := F0 m 5 ls [.null]) rfl ?_
    refine lv_astore_nN (lv' := [(3, .null), (0, .ref x), (1, .int v), (2, .int id)]) hx hb dX6_taken_5 rfl hl (by decide) rfl (fun ls hl => ?_)
    refine lv_iload_n hx hb dX6_taken_6 rfl (lv_at hl 2 rfl) ?_
    refine vp_callSi (va_Run.run (va_runS (As := [.int v]) (rest := []) ⟨hx, hb, hml, hown, hts⟩ (c_X6_isNode l v) (va_cwS 1 hts gX6_taken_X6_isNode rfl rfl rfl (by decide +kernel) ⟨Nat.le_of_ble_eq_true rfl, Nat.le_of_ble_eq_true rfl⟩) zpreS0 rfl rfl hl.1 rfl (lv_room (Nat.le_of_ble_eq_true rfl)) dX6_taken_7 ⟨Nat.le_of_ble_eq_true rfl, Nat.le_of_ble_eq_true rfl⟩)) (fun r3 hr3 => ?_)
    refine lv_if_eq (tgt := 25) hx hb dX6_taken_10 (by decide) (fun c4 => ?_) (fun c4 => ?_)
    · skip
      exact zthrowA hx hb hlt hown (hts (.classLink RX6 55 "java/lang/IllegalArgumentException") (by decide +kernel)) (hts (.initialized "java/lang/IllegalArgumentException") (by decide +kernel)) (fun w h => hts w (List.mem_cons_of_mem _ (List.mem_append_right _ h))) hE (zEt_157 hE.2.2.2) hP hD hK hS (by rw [hml]; exact hl.1) dX6_taken_25 dX6_taken_28 dX6_taken_29 dX6_taken_31 dX6_taken_34 hxt (Nat.le_of_ble_eq_true rfl) (Nat.le_of_ble_eq_true rfl) (Nat.le_of_ble_eq_true rfl) (Nat.le_of_ble_eq_true rfl) hlocks (fun t hB hF => ⟨(), trivial, ⟨rfl, hB⟩, hF⟩) hS.2.2 (Nat.le_of_ble_eq_true rfl) (Nat.le_of_ble_eq_true rfl)
    · skip
      obtain ⟨j8, hj8, rfl⟩ := zin8n hr3 c4
      refine lv_aload_nN hx hb dX6_taken_13 rfl (lv_at hl 0 rfl) ?_
      refine lv_ifnullN (tgt := 25) hx hb dX6_taken_14 (by decide) ?_
      exact zthrowA hx hb hlt hown (hts (.classLink RX6 55 "java/lang/IllegalArgumentException") (by decide +kernel)) (hts (.initialized "java/lang/IllegalArgumentException") (by decide +kernel)) (fun w h => hts w (List.mem_cons_of_mem _ (List.mem_append_right _ h))) hE (zEt_157 hE.2.2.2) hP hD hK hS (by rw [hml]; exact hl.1) dX6_taken_25 dX6_taken_28 dX6_taken_29 dX6_taken_31 dX6_taken_34 hxt (Nat.le_of_ble_eq_true rfl) (Nat.le_of_ble_eq_true rfl) (Nat.le_of_ble_eq_true rfl) (Nat.le_of_ble_eq_true rfl) hlocks (fun t hB hF => ⟨(), trivial, ⟨rfl, hB⟩, hF⟩) hS.2.2 (Nat.le_of_ble_eq_true rfl) (Nat.le_of_ble_eq_true rfl)
  · refine W.eq (g2 := F0 m 5 ls [.ref y2]) rfl ?_
    obtain ⟨j8, hj9, ej10, eq11⟩ := zfo_some hr1
    obtain ⟨k5, t6, hF7⟩ := hFa.2.2 j8 y2 hj9 eq11.symm
    refine lv_astore_n (lv' := [(3, .ref y2), (0, .ref x), (1, .int v), (2, .int id)]) hx hb dX6_taken_5 rfl hl (by decide) rfl (fun ls hl => ?_)
    refine lv_iload_n hx hb dX6_taken_6 rfl (lv_at hl 2 rfl) ?_
    refine vp_callSi (va_Run.run (va_runS (As := [.int v]) (rest := []) ⟨hx, hb, hml, hown, hts⟩ (c_X6_isNode l v) (va_cwS 1 hts gX6_taken_X6_isNode rfl rfl rfl (by decide +kernel) ⟨Nat.le_of_ble_eq_true rfl, Nat.le_of_ble_eq_true rfl⟩) zpreS0 rfl rfl hl.1 rfl (lv_room (Nat.le_of_ble_eq_true rfl)) dX6_taken_7 ⟨Nat.le_of_ble_eq_true rfl, Nat.le_of_ble_eq_true rfl⟩)) (fun r12 hr12 => ?_)
    refine lv_if_eq (tgt := 25) hx hb dX6_taken_10 (by decide) (fun c13 => ?_) (fun c13 => ?_)
    · skip
      exact zthrowA hx hb hlt hown (hts (.classLink RX6 55 "java/lang/IllegalArgumentException") (by decide +kernel)) (hts (.initialized "java/lang/IllegalArgumentException") (by decide +kernel)) (fun w h => hts w (List.mem_cons_of_mem _ (List.mem_append_right _ h))) hE (zEt_157 hE.2.2.2) hP hD hK hS (by rw [hml]; exact hl.1) dX6_taken_25 dX6_taken_28 dX6_taken_29 dX6_taken_31 dX6_taken_34 hxt (Nat.le_of_ble_eq_true rfl) (Nat.le_of_ble_eq_true rfl) (Nat.le_of_ble_eq_true rfl) (Nat.le_of_ble_eq_true rfl) hlocks (fun t hB hF => ⟨(), trivial, ⟨rfl, hB⟩, hF⟩) hS.2.2 (Nat.le_of_ble_eq_true rfl) (Nat.le_of_ble_eq_true rfl)
    · skip
      obtain ⟨j8, hj8, rfl⟩ := zin8n hr12 c13
      refine lv_aload_n hx hb dX6_taken_13 rfl (lv_at hl 0 rfl) ?_
      refine lv_ifnull hx hb dX6_taken_14 ?_
      refine lv_aload_n hx hb dX6_taken_17 rfl (lv_at hl 0 rfl) ?_
      refine lv_iload_n hx hb dX6_taken_18 rfl (lv_at hl 2 rfl) ?_
      refine vp_callSi (va_Run.run (va_runV (As := [.int (nI j8)]) (rest := []) ⟨hx, hb, hml, hown, hts⟩ (c_X1_isKnownTo l dC dI cy G S s.heap.size y2 (nI j8) hF7.1) (cwV 1 hts gX6_taken_X1_isKnownTo rfl rfl rfl (by decide +kernel) ⟨Nat.le_of_ble_eq_true rfl, Nat.le_of_ble_eq_true rfl⟩) (zpreV hK hP hD hN (zrecv1 hK hP hF7.1)) rfl rfl hl.1 rfl (lv_room (Nat.le_of_ble_eq_true rfl)) dX6_taken_19 ⟨Nat.le_of_ble_eq_true rfl, Nat.le_of_ble_eq_true rfl⟩)) (fun r14 hr14 => ?_)
      refine lv_if_ne (tgt := 35) hx hb dX6_taken_22 (by decide) (fun c15 => ?_) (fun c15 => ?_)
      · skip
        refine lv_aload_n hx hb dX6_taken_35 rfl (lv_at hl 0 rfl) ?_
        refine lv_iload_n hx hb dX6_taken_36 rfl (lv_at hl 2 rfl) ?_
        refine vp_callSi (va_Run.run (va_runV (As := [.int (nI j8)]) (rest := []) ⟨hx, hb, hml, hown, hts⟩ (c_X1_takingsAt l dC dI cy G S s.heap.size y2 k5 t6 (nI j8) (hst.fr hF7)) (cwV 1 hts gX6_taken_X1_takingsAt rfl rfl rfl (by decide +kernel) ⟨Nat.le_of_ble_eq_true rfl, Nat.le_of_ble_eq_true rfl⟩) (zpreV hK hP hD hN (zrecv1 hK hP hF7.1)) rfl rfl hl.1 rfl (lv_room (Nat.le_of_ble_eq_true rfl)) dX6_taken_37 ⟨Nat.le_of_ble_eq_true rfl, Nat.le_of_ble_eq_true rfl⟩)) (fun r16 hr16 => ?_)
        refine W.widen (k := 1) (n := 6) (Nat.le_of_ble_eq_true rfl) (Nat.le_of_ble_eq_true rfl) ?_
        refine vx_ret ?_
        exact W.iret (v := r16) hx hb hr (fun t ht hW => ⟨⟨r16, S, rfl, ⟨rfl, y2, hr1⟩, by rw [ht]; exact hP, va_K.moved hW.alike hK, hD⟩, hS.F ht⟩) hS.2.2 dX6_taken_40
      · skip
        exact zthrowA hx hb hlt hown (hts (.classLink RX6 55 "java/lang/IllegalArgumentException") (by decide +kernel)) (hts (.initialized "java/lang/IllegalArgumentException") (by decide +kernel)) (fun w h => hts w (List.mem_cons_of_mem _ (List.mem_append_right _ h))) hE (zEt_157 hE.2.2.2) hP hD hK hS (by rw [hml]; exact hl.1) dX6_taken_25 dX6_taken_28 dX6_taken_29 dX6_taken_31 dX6_taken_34 hxt (Nat.le_of_ble_eq_true rfl) (Nat.le_of_ble_eq_true rfl) (Nat.le_of_ble_eq_true rfl) (Nat.le_of_ble_eq_true rfl) hlocks (fun t hB hF => ⟨(), trivial, ⟨rfl, hB⟩, hF⟩) hS.2.2 (Nat.le_of_ble_eq_true rfl) (Nat.le_of_ble_eq_true rfl)
set_option maxHeartbeats 4000000 in
set_option maxRecDepth 100000 in
theorem x_X6_checks (l : Launch) (hlt : l.stackTraces = false) (dC : Nat → ClassId) (dI : Nat → Nat → Nat) (cy : Nat → ClassId) (G : zG) (S : zS) (sz : Nat) (x f n sc ia na d ka va : Nat) (id : Int32) (hX : zX G S x f n sc ia na d ka va)  : vx_Met l yX6_checks wsX6_checks ({ frames := 6, cells := 1, slots := 6, locals := 82 }) (zPx dC dI cy [.ref x, .int id] G S sz) (va_Qi (fun (r : Int32) S' => S' = S ∧ ∃ y n' : Nat, zfo S f id (some y) ∧ n' ≤ 8 ∧ S.1 y 1 = nI n' ∧ r = S.1 y 3 + 256 * (255 - zsum (zbl (S.2.1 y 5)) (if S.1 y 4 = 0 then 0 else S.1 y 3) n')) (zB dC dI cy (zA cy G S sz) G) (zA cy G S sz)) (vx_X (fun _ : Unit => True) (fun E _ t => (E = "java/lang/IllegalArgumentException" ∧ zfo S f id none) ∧ zB dC dI cy (zA cy G S sz) G S t) (zA cy G S sz)) 1 6 (zA cy G S sz) := by
  refine vx_ofW (cc := cX6_checks) (maxL := 3) (ret := (some .int)) (by decide) rfl ?_
  intro p e s m args below meth c s₁ B hml hxt hv
  obtain ⟨rfl, ⟨hsz, hP, hK, hD0, hN⟩, hE⟩ := hv
  have hx := B.exec
  have hb := B.bytes
  have hr := B.returns
  have hts := atoms_spec (ws := wsX6_checks) B.pre
  have hown : s.vm.findClass RX6 = some m.cls := findClass_of_methodNamed B.named
  have hlocks := B.notSynchronized
  subst hsz
  have hD : va_D (zA cy G S s.heap.size) (zW cy G S) := hD0.self
  generalize hAe : zA cy G S s.heap.size = A at hD hE ⊢
  have hA : ∀ q : Nat, s.heap.size ≤ q → A q := fun q h => by rw [← hAe]; exact Or.inr h
  have hS : va_S A s.heap s.heap [] := va_S.rf
  have hst := zSt.refl G S
  have hl := lv_entry ([.ref x, .int id]) (n := 3) (Nat.le_of_ble_eq_true rfl)
  rw [lg_entry_eq]
  generalize (lg_sl ([.ref x, .int id]) ++ List.replicate (3 - (lg_sl ([.ref x, .int id])).length) Slot.unset).toArray = ls at hl ⊢
  have hl : lv_has ls 3 [(0, .ref x), (1, .int id)] := hl
  have hi1 : ∀ w ∈ wsX10, w ∈ wsX6_checks := by decide +kernel
  have hX0 := hX
  obtain ⟨hx6, hq0, hq1, hq2, hq3, hFa, hNs, hSc, hDi, hRf⟩ := hX
  refine lv_aload_n hx hb dX6_checks_0 rfl (lv_at hl 0 rfl) ?_
  refine lv_iload_n hx hb dX6_checks_1 rfl (lv_at hl 1 rfl) ?_
  refine va_csq (va_Run.run (va_runV (As := [.int id]) (rest := []) ⟨hx, hb, hml, hown, hts⟩ (c_X6_frameOf l dC dI cy G S s.heap.size x f n sc ia na d ka va id hX0) (cwV 1 hts gX6_checks_X6_frameOf rfl rfl rfl (by decide +kernel) ⟨Nat.le_of_ble_eq_true rfl, Nat.le_of_ble_eq_true rfl⟩) (zpreV hK hP hD hN (zrecv6 hK hP hx6)) rfl rfl hl.1 rfl (lv_room (Nat.le_of_ble_eq_true rfl)) dX6_checks_2 ⟨Nat.le_of_ble_eq_true rfl, Nat.le_of_ble_eq_true rfl⟩)) (fun r1 hr1 => ?_)
  rcases r1 with _ | y2
  · refine W.eq (g2 := F0 m 5 ls [.null]) rfl ?_
    refine lv_astore_nN (lv' := [(2, .null), (0, .ref x), (1, .int id)]) hx hb dX6_checks_5 rfl hl (by decide) rfl (fun ls hl => ?_)
    refine lv_aload_nN hx hb dX6_checks_6 rfl (lv_at hl 0 rfl) ?_
    refine lv_ifnonnullN hx hb dX6_checks_7 ?_
    exact zthrowA hx hb hlt hown (hts (.classLink RX6 55 "java/lang/IllegalArgumentException") (by decide +kernel)) (hts (.initialized "java/lang/IllegalArgumentException") (by decide +kernel)) (fun w h => hts w (List.mem_cons_of_mem _ (List.mem_append_right _ h))) hE (zEt_177 hE.2.2.2) hP hD hK hS (by rw [hml]; exact hl.1) dX6_checks_10 dX6_checks_13 dX6_checks_14 dX6_checks_16 dX6_checks_19 hxt (Nat.le_of_ble_eq_true rfl) (Nat.le_of_ble_eq_true rfl) (Nat.le_of_ble_eq_true rfl) (Nat.le_of_ble_eq_true rfl) hlocks (fun t hB hF => ⟨(), trivial, ⟨⟨rfl, hr1⟩, hB⟩, hF⟩) hS.2.2 (Nat.le_of_ble_eq_true rfl) (Nat.le_of_ble_eq_true rfl)
  · refine W.eq (g2 := F0 m 5 ls [.ref y2]) rfl ?_
    obtain ⟨j6, hj7, ej8, eq9⟩ := zfo_some hr1
    obtain ⟨k3, t4, hF5⟩ := hFa.2.2 j6 y2 hj7 eq9.symm
    refine lv_astore_n (lv' := [(2, .ref y2), (0, .ref x), (1, .int id)]) hx hb dX6_checks_5 rfl hl (by decide) rfl (fun ls hl => ?_)
    refine lv_aload_n hx hb dX6_checks_6 rfl (lv_at hl 0 rfl) ?_
    refine lv_ifnonnull (tgt := 20) hx hb dX6_checks_7 (by decide) ?_
    refine lv_aload_n hx hb dX6_checks_20 rfl (lv_at hl 0 rfl) ?_
    refine zget (ci := 1) (C := RX1) (T := TX1) (N := 9) hx hb hts hi1 hown hK hP hF5.1 rfl rfl 3 (by decide) (hts (.fieldLink RX6 179 "LinCluster$Frame" "pid" "I") (by decide +kernel)) (fun _ h9 => h9) rfl dX6_checks_21 ?_
    refine lv_topi (fun v10 ev10 => ?_)
    refine lv_sipush (v := 256) hx hb dX6_checks_24 (by decide) ?_
    refine lv_aload_n hx hb dX6_checks_27 rfl (lv_at hl 0 rfl) ?_
    refine lv_aload_n hx hb dX6_checks_28 rfl (lv_at hl 0 rfl) ?_
    refine zget (ci := 1) (C := RX1) (T := TX1) (N := 9) hx hb hts hi1 hown hK hP hF5.1 rfl rfl 5 (by decide) (hts (.fieldLink RX6 182 "LinCluster$Frame" "bytes" "J") (by decide +kernel)) (fun _ h9 => h9) rfl dX6_checks_29 ?_
    refine lv_topl (fun v11 ev11 => ?_)
    refine vp_callSi (va_Run.run (va_runV (As := [.long v11]) (rest := [.int 256, .int v10]) ⟨hx, hb, hml, hown, hts⟩ (c_X1_checksumOf_x l dC dI cy G S s.heap.size y2 k3 t4 v11 (hst.fr hF5)) (cwV 1 hts gX6_checks_X1_checksumOf rfl rfl rfl (by decide +kernel) ⟨Nat.le_of_ble_eq_true rfl, Nat.le_of_ble_eq_true rfl⟩) (zpreV hK hP hD hN (zrecv1 hK hP hF5.1)) rfl rfl hl.1 rfl (lv_room (Nat.le_of_ble_eq_true rfl)) dX6_checks_32 ⟨Nat.le_of_ble_eq_true rfl, Nat.le_of_ble_eq_true rfl⟩)) (fun r12 hr12 => ?_)
    obtain ⟨n7, hn7, en7, er7⟩ := hr12
    refine lv_imul hx hb dX6_checks_35 ?_
    refine lv_topi (fun v13 ev13 => ?_)
    refine lv_iadd hx hb dX6_checks_36 ?_
    refine lv_topi (fun v14 ev14 => ?_)
    refine W.widen (k := 1) (n := 6) (Nat.le_of_ble_eq_true rfl) (Nat.le_of_ble_eq_true rfl) ?_
    refine vx_ret ?_
    exact W.iret (v := v14) hx hb hr (fun t ht hW => ⟨⟨v14, S, rfl, ⟨rfl, y2, n7, hr1, hn7, en7, by subst_vars; rfl⟩, by rw [ht]; exact hP, va_K.moved hW.alike hK, hD⟩, hS.F ht⟩) hS.2.2 dX6_checks_37
set_option maxHeartbeats 4000000 in
set_option maxRecDepth 100000 in
theorem x_X6_listen (l : Launch) (hlt : l.stackTraces = false) (dC : Nat → ClassId) (dI : Nat → Nat → Nat) (cy : Nat → ClassId) (G : zG) (S : zS) (sz : Nat) (x f n sc ia na d ka va : Nat) (v id b : Int32) (hX : zX G S x f n sc ia na d ka va)  : vx_Met l yX6_listen wsX6_listen ({ frames := 6, cells := 1, slots := 6, locals := 82 }) (zPx dC dI cy [.ref x, .int v, .int id, .int b] G S sz) (va_Qi (fun (r : Int32) S' => ∃ y ka' ta' j, zfo S f id (some y) ∧ zFr G S y ka' ta' ∧ j < 8 ∧ v = nI j ∧ kListen v (zfv S (some y)) = 0 ∧ ((r = 1 ∧ zheard (S.1 y 6) (nI j)) ∨ (r = 0 ∧ ¬ zheard (S.1 y 6) (nI j))) ∧ ((¬ b = 0 ∧ ((zheard (S.1 y 6) (nI j) ∧ S' = S) ∨ (¬ zheard (S.1 y 6) (nI j) ∧ S' = zpi (zpj (zpi S y 6 (S.1 y 6 ||| (1 <<< (nI j &&& 31)))) ka' j 0) ta' j 0))) ∨ (b = 0 ∧ S' = zpi S y 6 (S.1 y 6 &&& ((1 <<< (nI j &&& 31)) ^^^ (-1)))))) (zB dC dI cy (zA cy G S sz) G) (zA cy G S sz)) (vx_X (fun _ : Unit => True) (fun E _ t => (E = "java/lang/IllegalArgumentException" ∧ ∃ q, zfo S f id q ∧ kListen v (zfv S q) = 1) ∧ zB dC dI cy (zA cy G S sz) G S t) (zA cy G S sz)) 1 6 (zA cy G S sz) := by
  refine vx_ofW (cc := cX6_listen) (maxL := 6) (ret := (some .boolean)) (by decide) rfl ?_
  intro p e s m args below meth c s₁ B hml hxt hv
  obtain ⟨rfl, ⟨hsz, hP, hK, hD0, hN⟩, hE⟩ := hv
  have hx := B.exec
  have hb := B.bytes
  have hr := B.returns
  have hts := atoms_spec (ws := wsX6_listen) B.pre
  have hown : s.vm.findClass RX6 = some m.cls := findClass_of_methodNamed B.named
  have hlocks := B.notSynchronized
  subst hsz
  have hD : va_D (zA cy G S s.heap.size) (zW cy G S) := hD0.self
  generalize hAe : zA cy G S s.heap.size = A at hD hE ⊢
  have hA : ∀ q : Nat, s.heap.size ≤ q → A q := fun q h => by rw [← hAe]; exact Or.inr h
  have hS : va_S A s.heap s.heap [] := va_S.rf
  have hst := zSt.refl G S
  have hl := lv_entry ([.ref x, .int v, .int id, .int b]) (n := 6) (Nat.le_of_ble_eq_true rfl)
  rw [lg_entry_eq]
  generalize (lg_sl ([.ref x, .int v, .int id, .int b]) ++ List.replicate (6 - (lg_sl ([.ref x, .int v, .int id, .int b])).length) Slot.unset).toArray = ls at hl ⊢
  have hl : lv_has ls 6 [(0, .ref x), (1, .int v), (2, .int id), (3, .int b)] := hl
  have hi1 : ∀ w ∈ wsX10, w ∈ wsX6_listen := by decide +kernel
  have hX0 := hX
  obtain ⟨hx6, hq0, hq1, hq2, hq3, hFa, hNs, hSc, hDi, hRf⟩ := hX
  refine lv_aload_n hx hb dX6_listen_0 rfl (lv_at hl 0 rfl) ?_
  refine lv_iload_n hx hb dX6_listen_1 rfl (lv_at hl 2 rfl) ?_
  refine va_csq (va_Run.run (va_runV (As := [.int id]) (rest := []) ⟨hx, hb, hml, hown, hts⟩ (c_X6_frameOf l dC dI cy G S s.heap.size x f n sc ia na d ka va id hX0) (cwV 1 hts gX6_listen_X6_frameOf rfl rfl rfl (by decide +kernel) ⟨Nat.le_of_ble_eq_true rfl, Nat.le_of_ble_eq_true rfl⟩) (zpreV hK hP hD hN (zrecv6 hK hP hx6)) rfl rfl hl.1 rfl (lv_room (Nat.le_of_ble_eq_true rfl)) dX6_listen_2 ⟨Nat.le_of_ble_eq_true rfl, Nat.le_of_ble_eq_true rfl⟩)) (fun r1 hr1 => ?_)
  rcases r1 with _ | y2
  · refine W.eq (g2 := F0 m 5 ls [.null]) rfl ?_
    refine lv_astoreN (lv' := [(4, .null), (0, .ref x), (1, .int v), (2, .int id), (3, .int b)]) hx hb dX6_listen_5 hl (by decide) rfl (fun ls hl => ?_)
    refine lv_iload_n hx hb dX6_listen_7 rfl (lv_at hl 2 rfl) ?_
    refine vp_callSi (va_Run.run (va_runS (As := [.int v]) (rest := []) ⟨hx, hb, hml, hown, hts⟩ (c_X6_isNode l v) (va_cwS 1 hts gX6_listen_X6_isNode rfl rfl rfl (by decide +kernel) ⟨Nat.le_of_ble_eq_true rfl, Nat.le_of_ble_eq_true rfl⟩) zpreS0 rfl rfl hl.1 rfl (lv_room (Nat.le_of_ble_eq_true rfl)) dX6_listen_8 ⟨Nat.le_of_ble_eq_true rfl, Nat.le_of_ble_eq_true rfl⟩)) (fun r3 hr3 => ?_)
    refine lv_if_eq (tgt := 28) hx hb dX6_listen_11 (by decide) (fun c4 => ?_) (fun c4 => ?_)
    · skip
      exact zthrowA hx hb hlt hown (hts (.classLink RX6 55 "java/lang/IllegalArgumentException") (by decide +kernel)) (hts (.initialized "java/lang/IllegalArgumentException") (by decide +kernel)) (fun w h => hts w (List.mem_cons_of_mem _ (List.mem_append_right _ h))) hE (zEt_77 hE.2.2.2) hP hD hK hS (by rw [hml]; exact hl.1) dX6_listen_28 dX6_listen_31 dX6_listen_32 dX6_listen_34 dX6_listen_37 hxt (Nat.le_of_ble_eq_true rfl) (Nat.le_of_ble_eq_true rfl) (Nat.le_of_ble_eq_true rfl) (Nat.le_of_ble_eq_true rfl) hlocks (fun t hB hF => ⟨(), trivial, ⟨⟨rfl, none, hr1, rfl⟩, hB⟩, hF⟩) hS.2.2 (Nat.le_of_ble_eq_true rfl) (Nat.le_of_ble_eq_true rfl)
    · skip
      obtain ⟨j8, hj8, rfl⟩ := zin8n hr3 c4
      refine lv_aloadN hx hb dX6_listen_14 (lv_at hl 0 rfl) ?_
      refine lv_ifnullN (tgt := 28) hx hb dX6_listen_16 (by decide) ?_
      exact zthrowA hx hb hlt hown (hts (.classLink RX6 55 "java/lang/IllegalArgumentException") (by decide +kernel)) (hts (.initialized "java/lang/IllegalArgumentException") (by decide +kernel)) (fun w h => hts w (List.mem_cons_of_mem _ (List.mem_append_right _ h))) hE (zEt_77 hE.2.2.2) hP hD hK hS (by rw [hml]; exact hl.1) dX6_listen_28 dX6_listen_31 dX6_listen_32 dX6_listen_34 dX6_listen_37 hxt (Nat.le_of_ble_eq_true rfl) (Nat.le_of_ble_eq_true rfl) (Nat.le_of_ble_eq_true rfl) (Nat.le_of_ble_eq_true rfl) hlocks (fun t hB hF => ⟨(), trivial, ⟨⟨rfl, none, hr1, rfl⟩, hB⟩, hF⟩) hS.2.2 (Nat.le_of_ble_eq_true rfl) (Nat.le_of_ble_eq_true rfl)
  · refine W.eq (g2 := F0 m 5 ls [.ref y2]) rfl ?_
    obtain ⟨j8, hj9, ej10, eq11⟩ := zfo_some hr1
    obtain ⟨k5, t6, hF7⟩ := hFa.2.2 j8 y2 hj9 eq11.symm
    refine lv_astore (lv' := [(4, .ref y2), (0, .ref x), (1, .int v), (2, .int id), (3, .int b)]) hx hb dX6_listen_5 hl (by decide) rfl (fun ls hl => ?_)
    refine lv_iload_n hx hb dX6_listen_7 rfl (lv_at hl 2 rfl) ?_
    refine vp_callSi (va_Run.run (va_runS (As := [.int v]) (rest := []) ⟨hx, hb, hml, hown, hts⟩ (c_X6_isNode l v) (va_cwS 1 hts gX6_listen_X6_isNode rfl rfl rfl (by decide +kernel) ⟨Nat.le_of_ble_eq_true rfl, Nat.le_of_ble_eq_true rfl⟩) zpreS0 rfl rfl hl.1 rfl (lv_room (Nat.le_of_ble_eq_true rfl)) dX6_listen_8 ⟨Nat.le_of_ble_eq_true rfl, Nat.le_of_ble_eq_true rfl⟩)) (fun r12 hr12 => ?_)
    refine lv_if_eq (tgt := 28) hx hb dX6_listen_11 (by decide) (fun c13 => ?_) (fun c13 => ?_)
    · skip
      exact zthrowA hx hb hlt hown (hts (.classLink RX6 55 "java/lang/IllegalArgumentException") (by decide +kernel)) (hts (.initialized "java/lang/IllegalArgumentException") (by decide +kernel)) (fun w h => hts w (List.mem_cons_of_mem _ (List.mem_append_right _ h))) hE (zEt_77 hE.2.2.2) hP hD hK hS (by rw [hml]; exact hl.1) dX6_listen_28 dX6_listen_31 dX6_listen_32 dX6_listen_34 dX6_listen_37 hxt (Nat.le_of_ble_eq_true rfl) (Nat.le_of_ble_eq_true rfl) (Nat.le_of_ble_eq_true rfl) (Nat.le_of_ble_eq_true rfl) hlocks (fun t hB hF => ⟨(), trivial, ⟨⟨rfl, (some y2), hr1, if_pos (Or.inl (zin8b hr12 c13))⟩, hB⟩, hF⟩) hS.2.2 (Nat.le_of_ble_eq_true rfl) (Nat.le_of_ble_eq_true rfl)
    · skip
      obtain ⟨j8, hj8, rfl⟩ := zin8n hr12 c13
      refine lv_aload hx hb dX6_listen_14 (lv_at hl 0 rfl) ?_
      refine lv_ifnull hx hb dX6_listen_16 ?_
      refine lv_aload hx hb dX6_listen_19 (lv_at hl 0 rfl) ?_
      refine zget (ci := 1) (C := RX1) (T := TX1) (N := 9) hx hb hts hi1 hown hK hP hF7.1 rfl rfl 2 (by decide) (hts (.fieldLink RX6 74 "LinCluster$Frame" "publisher" "I") (by decide +kernel)) (fun _ h9 => h9) rfl dX6_listen_21 ?_
      refine lv_topi (fun v14 ev14 => ?_)
      refine lv_iload_n hx hb dX6_listen_24 rfl (lv_at hl 2 rfl) ?_
      refine lv_icmp_ne (tgt := 38) hx hb dX6_listen_25 (by decide) (fun c15 => ?_) (fun c15 => ?_)
      · skip
        refine lv_aload hx hb dX6_listen_38 (lv_at hl 0 rfl) ?_
        refine lv_iload_n hx hb dX6_listen_40 rfl (lv_at hl 2 rfl) ?_
        refine vp_callSi (va_Run.run (va_runV (As := [.int (nI j8)]) (rest := []) ⟨hx, hb, hml, hown, hts⟩ (c_X1_isHeardBy_x l dC dI cy G S s.heap.size y2 (nI j8) hF7.1) (cwV 1 hts gX6_listen_X1_isHeardBy rfl rfl rfl (by decide +kernel) ⟨Nat.le_of_ble_eq_true rfl, Nat.le_of_ble_eq_true rfl⟩) (zpreV hK hP hD hN (zrecv1 hK hP hF7.1)) rfl rfl hl.1 rfl (lv_room (Nat.le_of_ble_eq_true rfl)) dX6_listen_41 ⟨Nat.le_of_ble_eq_true rfl, Nat.le_of_ble_eq_true rfl⟩)) (fun r16 hr16 => ?_)
        refine lv_istore (lv' := [(5, .int r16), (4, .ref y2), (0, .ref x), (1, .int (nI j8)), (2, .int id), (3, .int b)]) hx hb dX6_listen_44 hl (by decide) rfl (fun ls hl => ?_)
        refine lv_iload_n hx hb dX6_listen_46 rfl (lv_at hl 5 rfl) ?_
        refine lv_if_eq (tgt := 59) hx hb dX6_listen_47 (by decide) (fun c17 => ?_) (fun c17 => ?_)
        · skip
          refine lv_aload hx hb dX6_listen_59 (lv_at hl 1 rfl) ?_
          refine lv_iload_n hx hb dX6_listen_61 rfl (lv_at hl 3 rfl) ?_
          refine zcallv (va_runV (As := [.int (nI j8)]) (rest := []) ⟨hx, hb, hml, hown, hts⟩ (c_X1_endHearing l dC dI cy G S s.heap.size y2 (nI j8) hF7.1) (cwV 1 hts gX6_listen_X1_endHearing rfl rfl rfl (by decide +kernel) ⟨Nat.le_of_ble_eq_true rfl, Nat.le_of_ble_eq_true rfl⟩) (zpreV hK hP hD hN (zrecv1 hK hP hF7.1)) rfl rfl hl.1 rfl (lv_room (Nat.le_of_ble_eq_true rfl)) dX6_listen_62 ⟨Nat.le_of_ble_eq_true rfl, Nat.le_of_ble_eq_true rfl⟩) hS hD hA (fun S19 H locs hr18 hP hD hS => ?_)
          refine lv_iload hx hb dX6_listen_65 (lv_at hl 0 rfl) ?_
          refine W.widen (k := 1) (n := 6) (Nat.le_of_ble_eq_true rfl) (Nat.le_of_ble_eq_true rfl) ?_
          refine vx_ret ?_
          exact W.zret (v := r16) (ty := .boolean) hx hb hr (by rcases hr16 with h | h <;> rw [h.1] <;> rfl) (fun t ht hW => ⟨⟨r16, S19, rfl, ⟨y2, k5, t6, j8, hr1, hF7, hj8, rfl, if_neg (fun z9 => z9.elim (zn8 hj8) (fun z8 => c15 (ev14.trans z8))), hr16, Or.inr ⟨c17, hr18⟩⟩, by rw [ht]; exact hP, va_K.moved hW.alike hK, hD⟩, hS.F ht⟩) hS.2.2 dX6_listen_67
        · skip
          refine lv_aload hx hb dX6_listen_50 (lv_at hl 1 rfl) ?_
          refine lv_iload_n hx hb dX6_listen_52 rfl (lv_at hl 3 rfl) ?_
          refine zcallv (va_runV (As := [.int (nI j8)]) (rest := []) ⟨hx, hb, hml, hown, hts⟩ (c_X1_beginHearing l dC dI cy G S s.heap.size y2 k5 t6 j8 (hst.fr hF7) hj8) (cwV 1 hts gX6_listen_X1_beginHearing rfl rfl rfl (by decide +kernel) ⟨Nat.le_of_ble_eq_true rfl, Nat.le_of_ble_eq_true rfl⟩) (zpreV hK hP hD hN (zrecv1 hK hP hF7.1)) rfl rfl hl.1 rfl (lv_room (Nat.le_of_ble_eq_true rfl)) dX6_listen_53 ⟨Nat.le_of_ble_eq_true rfl, Nat.le_of_ble_eq_true rfl⟩) hS hD hA (fun S21 H locs hr20 hP hD hS => ?_)
          refine lv_goto (tgt := 65) hx hb dX6_listen_56 (by decide) ?_
          refine lv_iload hx hb dX6_listen_65 (lv_at hl 0 rfl) ?_
          refine W.widen (k := 1) (n := 6) (Nat.le_of_ble_eq_true rfl) (Nat.le_of_ble_eq_true rfl) ?_
          refine vx_ret ?_
          exact W.zret (v := r16) (ty := .boolean) hx hb hr (by rcases hr16 with h | h <;> rw [h.1] <;> rfl) (fun t ht hW => ⟨⟨r16, S21, rfl, ⟨y2, k5, t6, j8, hr1, hF7, hj8, rfl, if_neg (fun z9 => z9.elim (zn8 hj8) (fun z8 => c15 (ev14.trans z8))), hr16, Or.inl ⟨c17, hr20⟩⟩, by rw [ht]; exact hP, va_K.moved hW.alike hK, hD⟩, hS.F ht⟩) hS.2.2 dX6_listen_67
      · skip
        exact zthrowA hx hb hlt hown (hts (.classLink RX6 55 "java/lang/IllegalArgumentException") (by decide +kernel)) (hts (.initialized "java/lang/IllegalArgumentException") (by decide +kernel)) (fun w h => hts w (List.mem_cons_of_mem _ (List.mem_append_right _ h))) hE (zEt_77 hE.2.2.2) hP hD hK hS (by rw [hml]; exact hl.1) dX6_listen_28 dX6_listen_31 dX6_listen_32 dX6_listen_34 dX6_listen_37 hxt (Nat.le_of_ble_eq_true rfl) (Nat.le_of_ble_eq_true rfl) (Nat.le_of_ble_eq_true rfl) (Nat.le_of_ble_eq_true rfl) hlocks (fun t hB hF => ⟨(), trivial, ⟨⟨rfl, (some y2), hr1, if_pos (Or.inr (ev14.symm.trans c15))⟩, hB⟩, hF⟩) hS.2.2 (Nat.le_of_ble_eq_true rfl) (Nat.le_of_ble_eq_true rfl)
/-- the rows behind Frame(n, k, b, v) at a, with its two arrays -/
def zFi (S : zS) (a k1 t1 : Nat) (n k b v : Int32) : zS := (zpi (zpi (zpi (zpi (zpi (zpq (zSn (zpq (zSn (zpi (zpj S a 5 0) a 6 0) k1) a 7 (some k1)) t1) a 8 (some t1)) a 0 n) a 1 k) a 2 b) a 4 v) a 3 (zpid n))
set_option maxHeartbeats 4000000 in
set_option maxRecDepth 100000 in
theorem x_X6_frame (l : Launch) (hlt : l.stackTraces = false) (dC : Nat → ClassId) (dI : Nat → Nat → Nat) (cy : Nat → ClassId) (G : zG) (S : zS) (sz : Nat) (x f n sc ia na d ka va : Nat) (id b v e1 : Int32) (hX : zX G S x f n sc ia na d ka va)  : vx_Met l yX6_frame wsX6_frame ({ frames := 6, cells := 3, slots := 25, locals := 82 }) (zPx dC dI cy [.ref x, .int id, .int b, .int v, .int e1] G S sz) (va_Qv (fun u : zG × zS => ∃ q k t j i : Nat, ∃ w1 : Int32, q ∉ G.1 ∧ k ∉ (zGn G q 1 0).1 ∧ t ∉ (zGn (zGn G q 1 0) k 9 8).1 ∧ j < 62 ∧ i < 8 ∧ id = nI j ∧ v = nI i ∧ kFrame (S.1 x 4) id b v = 0 ∧ w1 = zenh e1 j ∧ u = (zGn (zGn (zGn G q 1 0) k 9 8) t 8 8, zpq (zFi (zSn S q) q k t id b v w1) f j (some q))) (fun u => zB dC dI cy (zA cy G S sz) u.1 u.2) (zA cy G S sz)) (vx_X (fun _ : Unit => True) (fun E _ t => ((E = "java/lang/IllegalArgumentException" ∧ kFrame (S.1 x 4) id b v = 1) ∨ (E = "java/lang/IllegalStateException" ∧ kFrame (S.1 x 4) id b v = 2)) ∧ zB dC dI cy (zA cy G S sz) G S t) (zA cy G S sz)) 3 25 (zA cy G S sz) := by
  refine vx_ofW (cc := cX6_frame) (maxL := 5) (ret := none) (by decide) rfl ?_
  intro p e s m args below meth c s₁ B hml hxt hv
  obtain ⟨rfl, ⟨hsz, hP, hK, hD0, hN⟩, hE⟩ := hv
  have hx := B.exec
  have hb := B.bytes
  have hr := B.returns
  have hts := atoms_spec (ws := wsX6_frame) B.pre
  have hown : s.vm.findClass RX6 = some m.cls := findClass_of_methodNamed B.named
  have hlocks := B.notSynchronized
  subst hsz
  have hD : va_D (zA cy G S s.heap.size) (zW cy G S) := hD0.self
  generalize hAe : zA cy G S s.heap.size = A at hD hE ⊢
  have hA : ∀ q : Nat, s.heap.size ≤ q → A q := fun q h => by rw [← hAe]; exact Or.inr h
  have hS : va_S A s.heap s.heap [] := va_S.rf
  have hst := zSt.refl G S
  have hl := lv_entry ([.ref x, .int id, .int b, .int v, .int e1]) (n := 5) (Nat.le_of_ble_eq_true rfl)
  rw [lg_entry_eq]
  generalize (lg_sl ([.ref x, .int id, .int b, .int v, .int e1]) ++ List.replicate (5 - (lg_sl ([.ref x, .int id, .int b, .int v, .int e1])).length) Slot.unset).toArray = ls at hl ⊢
  have hl : lv_has ls 5 [(0, .ref x), (1, .int id), (2, .int b), (3, .int v), (4, .int e1)] := hl
  have hi1 : ∀ w ∈ wsX10, w ∈ wsX6_frame := by decide +kernel
  have hi6 : ∀ w ∈ wsX60, w ∈ wsX6_frame := by decide +kernel
  have hX0 := hX
  obtain ⟨hx6, hq0, hq1, hq2, hq3, hFa, hNs, hSc, hDi, hRf⟩ := hX
  have hO_x := hx6
  have hO_f := hFa.1
  have hL_f := hFa.2.1
  refine lv_iload_n hx hb dX6_frame_0 rfl (lv_at hl 1 rfl) ?_
  refine lv_if_lt (tgt := 31) hx hb dX6_frame_1 (by decide) (fun c1 => ?_) (fun c1 => ?_)
  · skip
    exact zthrowA hx hb hlt hown (hts (.classLink RX6 55 "java/lang/IllegalArgumentException") (by decide +kernel)) (hts (.initialized "java/lang/IllegalArgumentException") (by decide +kernel)) (fun w h => hts w (List.mem_cons_of_mem _ (List.mem_append_left _ (List.mem_append_right _ h)))) hE (zEt_57 hE.2.2.2) hP hD hK hS (by rw [hml]; exact hl.1) dX6_frame_31 dX6_frame_34 dX6_frame_35 dX6_frame_37 dX6_frame_40 hxt (Nat.le_of_ble_eq_true rfl) (Nat.le_of_ble_eq_true rfl) (Nat.le_of_ble_eq_true rfl) (Nat.le_of_ble_eq_true rfl) hlocks (fun t hB hF => ⟨(), trivial, ⟨(Or.inl ⟨rfl, if_pos (Or.inl c1)⟩), hB⟩, hF⟩) hS.2.2 (Nat.le_of_ble_eq_true rfl) (Nat.le_of_ble_eq_true rfl)
  · skip
    refine lv_iload_n hx hb dX6_frame_4 rfl (lv_at hl 1 rfl) ?_
    refine lv_aload_n hx hb dX6_frame_5 rfl (lv_at hl 0 rfl) ?_
    refine zget (ci := 6) (C := RX6) (T := TX6) (N := 7) hx hb hts hi6 hown hK hP hO_x rfl rfl 0 (by decide) (hts (.fieldLink RX6 11 "LinCluster" "frames" "[LLinCluster$Frame;") (by decide +kernel)) (fun _ h9 => h9) (v := .ref f) (congrArg (fun z => some (va_rf z)) (hst.q hx6.2 rfl hq0)) dX6_frame_6 ?_
    refine zfalen (v := 62) hx hb hK hP hO_f hL_f (by decide) dX6_frame_9 ?_
    refine lv_icmp_ge (tgt := 31) hx hb dX6_frame_10 (by decide) (fun c2 => ?_) (fun c2 => ?_)
    · skip
      exact zthrowA hx hb hlt hown (hts (.classLink RX6 55 "java/lang/IllegalArgumentException") (by decide +kernel)) (hts (.initialized "java/lang/IllegalArgumentException") (by decide +kernel)) (fun w h => hts w (List.mem_cons_of_mem _ (List.mem_append_left _ (List.mem_append_right _ h)))) hE (zEt_57 hE.2.2.2) hP hD hK hS (by rw [hml]; exact hl.1) dX6_frame_31 dX6_frame_34 dX6_frame_35 dX6_frame_37 dX6_frame_40 hxt (Nat.le_of_ble_eq_true rfl) (Nat.le_of_ble_eq_true rfl) (Nat.le_of_ble_eq_true rfl) (Nat.le_of_ble_eq_true rfl) hlocks (fun t hB hF => ⟨(), trivial, ⟨(Or.inl ⟨rfl, if_pos (Or.inr (Or.inl c2))⟩), hB⟩, hF⟩) hS.2.2 (Nat.le_of_ble_eq_true rfl) (Nat.le_of_ble_eq_true rfl)
    · skip
      obtain ⟨i8, hi8, rfl⟩ := zin62 c1 c2
      refine lv_iload_n hx hb dX6_frame_13 rfl (lv_at hl 2 rfl) ?_
      refine lv_iconst (v := 1) hx hb dX6_frame_14 (by decide) ?_
      refine lv_icmp_lt (tgt := 31) hx hb dX6_frame_15 (by decide) (fun c3 => ?_) (fun c3 => ?_)
      · skip
        exact zthrowA hx hb hlt hown (hts (.classLink RX6 55 "java/lang/IllegalArgumentException") (by decide +kernel)) (hts (.initialized "java/lang/IllegalArgumentException") (by decide +kernel)) (fun w h => hts w (List.mem_cons_of_mem _ (List.mem_append_left _ (List.mem_append_right _ h)))) hE (zEt_57 hE.2.2.2) hP hD hK hS (by rw [hml]; exact hl.1) dX6_frame_31 dX6_frame_34 dX6_frame_35 dX6_frame_37 dX6_frame_40 hxt (Nat.le_of_ble_eq_true rfl) (Nat.le_of_ble_eq_true rfl) (Nat.le_of_ble_eq_true rfl) (Nat.le_of_ble_eq_true rfl) hlocks (fun t hB hF => ⟨(), trivial, ⟨(Or.inl ⟨rfl, if_pos (Or.inr (Or.inr (Or.inl c3)))⟩), hB⟩, hF⟩) hS.2.2 (Nat.le_of_ble_eq_true rfl) (Nat.le_of_ble_eq_true rfl)
      · skip
        refine lv_iload_n hx hb dX6_frame_18 rfl (lv_at hl 2 rfl) ?_
        refine lv_bipush (v := 8) hx hb dX6_frame_19 (by decide) ?_
        refine lv_icmp_gt (tgt := 31) hx hb dX6_frame_21 (by decide) (fun c4 => ?_) (fun c4 => ?_)
        · skip
          exact zthrowA hx hb hlt hown (hts (.classLink RX6 55 "java/lang/IllegalArgumentException") (by decide +kernel)) (hts (.initialized "java/lang/IllegalArgumentException") (by decide +kernel)) (fun w h => hts w (List.mem_cons_of_mem _ (List.mem_append_left _ (List.mem_append_right _ h)))) hE (zEt_57 hE.2.2.2) hP hD hK hS (by rw [hml]; exact hl.1) dX6_frame_31 dX6_frame_34 dX6_frame_35 dX6_frame_37 dX6_frame_40 hxt (Nat.le_of_ble_eq_true rfl) (Nat.le_of_ble_eq_true rfl) (Nat.le_of_ble_eq_true rfl) (Nat.le_of_ble_eq_true rfl) hlocks (fun t hB hF => ⟨(), trivial, ⟨(Or.inl ⟨rfl, if_pos (Or.inr (Or.inr (Or.inr (Or.inl c4))))⟩), hB⟩, hF⟩) hS.2.2 (Nat.le_of_ble_eq_true rfl) (Nat.le_of_ble_eq_true rfl)
        · skip
          refine lv_iload_n hx hb dX6_frame_24 rfl (lv_at hl 3 rfl) ?_
          refine vp_callSi (va_Run.run (va_runS (As := [.int v]) (rest := []) ⟨hx, hb, hml, hown, hts⟩ (c_X6_isNode l v) (va_cwS 1 hts gX6_frame_X6_isNode rfl rfl rfl (by decide +kernel) ⟨Nat.le_of_ble_eq_true rfl, Nat.le_of_ble_eq_true rfl⟩) zpreS0 rfl rfl hl.1 rfl (lv_room (Nat.le_of_ble_eq_true rfl)) dX6_frame_25 ⟨Nat.le_of_ble_eq_true rfl, Nat.le_of_ble_eq_true rfl⟩)) (fun r5 hr5 => ?_)
          refine lv_if_ne (tgt := 41) hx hb dX6_frame_28 (by decide) (fun c6 => ?_) (fun c6 => ?_)
          · skip
            obtain ⟨j8, hj8, rfl⟩ := zin8n hr5 c6
            refine lv_aload_n hx hb dX6_frame_41 rfl (lv_at hl 0 rfl) ?_
            refine zget (ci := 6) (C := RX6) (T := TX6) (N := 7) hx hb hts hi6 hown hK hP hO_x rfl rfl 4 (by decide) (hts (.fieldLink RX6 35 "LinCluster" "time" "I") (by decide +kernel)) (fun _ h9 => h9) rfl dX6_frame_42 ?_
            refine lv_topi (fun v7 ev7 => ?_)
            refine lv_if_le (tgt := 58) hx hb dX6_frame_45 (by decide) (fun c8 => ?_) (fun c8 => ?_)
            · skip
              refine lv_aload_n hx hb dX6_frame_58 rfl (lv_at hl 0 rfl) ?_
              refine zget (ci := 6) (C := RX6) (T := TX6) (N := 7) hx hb hts hi6 hown hK hP hO_x rfl rfl 0 (by decide) (hts (.fieldLink RX6 11 "LinCluster" "frames" "[LLinCluster$Frame;") (by decide +kernel)) (fun _ h9 => h9) (v := .ref f) (congrArg (fun z => some (va_rf z)) (hst.q hx6.2 rfl hq0)) dX6_frame_59 ?_
              refine lv_iload_n hx hb dX6_frame_62 rfl (lv_at hl 1 rfl) ?_
              refine znewo (ci := 1) (C := RX1) (T := TX1) (N := 9) (fs := [.int 0, .int 0, .int 0, .int 0, .int 0, .long 0, .int 0, .null, .null]) hx hb hts hi1 tyX1 tyX1_ok hown (hts (.classLink RX6 9 RX1) (by decide +kernel)) (hts (.instantiable RX1 9) (by decide +kernel)) (hts (.initialized RX1) (by decide +kernel)) hK hP hD hS hA rfl zdef1 rfl (Nat.le_of_ble_eq_true rfl) (Nat.le_of_ble_eq_true rfl) dX6_frame_63 (fun q9 H hq_q9 hP hD hS => ?_)
              have hO_x := hO_x.gn (kd' := 1) (n := 0) hq_q9
              have hL_f := (zGn_len' (hO_f.ne hq_q9) 1 0).trans hL_f
              have hO_f := hO_f.gn (kd' := 1) (n := 0) hq_q9
              have hO_q9 := zO.nw G q9 1 0
              refine lv_dup hx hb dX6_frame_66 rfl ?_
              refine lv_iload_n hx hb dX6_frame_67 rfl (lv_at hl 1 rfl) ?_
              refine lv_iload_n hx hb dX6_frame_68 rfl (lv_at hl 2 rfl) ?_
              refine lv_iload_n hx hb dX6_frame_69 rfl (lv_at hl 3 rfl) ?_
              refine lv_iload hx hb dX6_frame_70 (lv_at hl 4 rfl) ?_
              refine lv_if_eq (tgt := 85) hx hb dX6_frame_72 (by decide) (fun c10 => ?_) (fun c10 => ?_)
              · skip
                refine lv_iconst (v := 0) hx hb dX6_frame_85 (by decide) ?_
                refine zcallV (va_runI (As := [.int (nI i8), .int b, .int (nI j8), .int 0]) (rest := [.ref q9, .int (nI i8), .ref f]) ⟨hx, hb, hml, hown, hts⟩ (c_X1_init l dC dI cy (zGn G q9 1 0) (zSn S q9) H.size q9 (nI i8) b (nI j8) 0 hO_q9 (by decide)) (cwI 4 hts gX6_frame_X1_init rfl rfl rfl (hts (.initialized RX1) (by decide +kernel)) (hts (.methodLink RX6 67 yX1_init) (by decide +kernel)) (hts (.instanceMethod yX1_init) (by decide +kernel)) rfl (by decide +kernel) ⟨Nat.le_of_ble_eq_true rfl, Nat.le_of_ble_eq_true rfl⟩) (zpreS hK hP hD hN) rfl rfl hl.1 rfl (lv_room (Nat.le_of_ble_eq_true rfl)) dX6_frame_86 ⟨(Nat.le_of_ble_eq_true rfl), (Nat.le_of_ble_eq_true rfl)⟩) hS hD hA (fun u12 H locs hr11 hP hD hS => ?_)
                obtain ⟨q13, q14, hq_q13, hq_q14, rfl⟩ := hr11
                have hO_x := hO_x.gn (kd' := 9) (n := 8) hq_q13
                have hL_f := (zGn_len' (hO_f.ne hq_q13) 9 8).trans hL_f
                have hO_f := hO_f.gn (kd' := 9) (n := 8) hq_q13
                have hO_q9 := hO_q9.gn (kd' := 9) (n := 8) hq_q13
                have hO_q13 := zO.nw (zGn G q9 1 0) q13 9 8
                have hL_q13 := zGn_len (zGn G q9 1 0) q13 9 8
                have hO_x := hO_x.gn (kd' := 8) (n := 8) hq_q14
                have hL_f := (zGn_len' (hO_f.ne hq_q14) 8 8).trans hL_f
                have hO_f := hO_f.gn (kd' := 8) (n := 8) hq_q14
                have hO_q9 := hO_q9.gn (kd' := 8) (n := 8) hq_q14
                have hL_q13 := (zGn_len' (hO_q13.ne hq_q14) 8 8).trans hL_q13
                have hO_q13 := hO_q13.gn (kd' := 8) (n := 8) hq_q14
                have hO_q14 := zO.nw (zGn (zGn G q9 1 0) q13 9 8) q14 8 8
                have hL_q14 := zGn_len (zGn (zGn G q9 1 0) q13 9 8) q14 8 8
                have hP : va_P (dC, dI) vwCl (zW cy (zGn (zGn (zGn G q9 1 0) q13 9 8) q14 8 8) (zFi (zSn S q9) q9 q13 q14 (nI i8) b (nI j8) 0)) H := hP
                have hD : va_D A (zW cy (zGn (zGn (zGn G q9 1 0) q13 9 8) q14 8 8) (zFi (zSn S q9) q9 q13 q14 (nI i8) b (nI j8) 0)) := hD
                refine zfast hx hb hK hP hD hS hO_f hL_f hO_q9 (vp_in_nI (n := i8) (by omega) (by omega)) dX6_frame_89 (fun H locs hP hD hS => ?_)
                rw [(nI_clamp (n := i8) (by omega))] at hP hD
                refine W.widen (k := 3) (n := 25) (Nat.le_of_ble_eq_true rfl) (Nat.le_of_ble_eq_true rfl) ?_
                refine vx_ret ?_
                exact W.vret hx hb hr (fun t ht hW => ⟨⟨((zGn (zGn (zGn G q9 1 0) q13 9 8) q14 8 8), (zpq (zFi (zSn S q9) q9 q13 q14 (nI i8) b (nI j8) 0) f i8 (some q9))), rfl, ⟨q9, q13, q14, i8, j8, 0, hq_q9, hq_q13, hq_q14, hi8, hj8, rfl, rfl, by unfold kFrame; rw [if_neg (fun z9 => z9.elim c1 (fun z8 => z8.elim c2 (fun z7 => z7.elim c3 (fun z6 => z6.elim c4 (zn8 hj8))))), if_neg (fun z9 => Int32.not_lt.mpr (by rw [← ev7]; exact c8) z9)], zenh_0 c10, rfl⟩, by rw [ht]; exact hP, va_K.moved hW.alike hK, hD⟩, hS.F ht⟩) hS.2.2 dX6_frame_90
              · skip
                refine lv_iload_n hx hb dX6_frame_75 rfl (lv_at hl 1 rfl) ?_
                refine lv_bipush (v := 60) hx hb dX6_frame_76 (by decide) ?_
                refine lv_icmp_ge (tgt := 85) hx hb dX6_frame_78 (by decide) (fun c15 => ?_) (fun c15 => ?_)
                · skip
                  refine lv_iconst (v := 0) hx hb dX6_frame_85 (by decide) ?_
                  refine zcallV (va_runI (As := [.int (nI i8), .int b, .int (nI j8), .int 0]) (rest := [.ref q9, .int (nI i8), .ref f]) ⟨hx, hb, hml, hown, hts⟩ (c_X1_init l dC dI cy (zGn G q9 1 0) (zSn S q9) H.size q9 (nI i8) b (nI j8) 0 hO_q9 (by decide)) (cwI 4 hts gX6_frame_X1_init rfl rfl rfl (hts (.initialized RX1) (by decide +kernel)) (hts (.methodLink RX6 67 yX1_init) (by decide +kernel)) (hts (.instanceMethod yX1_init) (by decide +kernel)) rfl (by decide +kernel) ⟨Nat.le_of_ble_eq_true rfl, Nat.le_of_ble_eq_true rfl⟩) (zpreS hK hP hD hN) rfl rfl hl.1 rfl (lv_room (Nat.le_of_ble_eq_true rfl)) dX6_frame_86 ⟨(Nat.le_of_ble_eq_true rfl), (Nat.le_of_ble_eq_true rfl)⟩) hS hD hA (fun u17 H locs hr16 hP hD hS => ?_)
                  obtain ⟨q18, q19, hq_q18, hq_q19, rfl⟩ := hr16
                  have hO_x := hO_x.gn (kd' := 9) (n := 8) hq_q18
                  have hL_f := (zGn_len' (hO_f.ne hq_q18) 9 8).trans hL_f
                  have hO_f := hO_f.gn (kd' := 9) (n := 8) hq_q18
                  have hO_q9 := hO_q9.gn (kd' := 9) (n := 8) hq_q18
                  have hO_q18 := zO.nw (zGn G q9 1 0) q18 9 8
                  have hL_q18 := zGn_len (zGn G q9 1 0) q18 9 8
                  have hO_x := hO_x.gn (kd' := 8) (n := 8) hq_q19
                  have hL_f := (zGn_len' (hO_f.ne hq_q19) 8 8).trans hL_f
                  have hO_f := hO_f.gn (kd' := 8) (n := 8) hq_q19
                  have hO_q9 := hO_q9.gn (kd' := 8) (n := 8) hq_q19
                  have hL_q18 := (zGn_len' (hO_q18.ne hq_q19) 8 8).trans hL_q18
                  have hO_q18 := hO_q18.gn (kd' := 8) (n := 8) hq_q19
                  have hO_q19 := zO.nw (zGn (zGn G q9 1 0) q18 9 8) q19 8 8
                  have hL_q19 := zGn_len (zGn (zGn G q9 1 0) q18 9 8) q19 8 8
                  have hP : va_P (dC, dI) vwCl (zW cy (zGn (zGn (zGn G q9 1 0) q18 9 8) q19 8 8) (zFi (zSn S q9) q9 q18 q19 (nI i8) b (nI j8) 0)) H := hP
                  have hD : va_D A (zW cy (zGn (zGn (zGn G q9 1 0) q18 9 8) q19 8 8) (zFi (zSn S q9) q9 q18 q19 (nI i8) b (nI j8) 0)) := hD
                  refine zfast hx hb hK hP hD hS hO_f hL_f hO_q9 (vp_in_nI (n := i8) (by omega) (by omega)) dX6_frame_89 (fun H locs hP hD hS => ?_)
                  rw [(nI_clamp (n := i8) (by omega))] at hP hD
                  refine W.widen (k := 3) (n := 25) (Nat.le_of_ble_eq_true rfl) (Nat.le_of_ble_eq_true rfl) ?_
                  refine vx_ret ?_
                  exact W.vret hx hb hr (fun t ht hW => ⟨⟨((zGn (zGn (zGn G q9 1 0) q18 9 8) q19 8 8), (zpq (zFi (zSn S q9) q9 q18 q19 (nI i8) b (nI j8) 0) f i8 (some q9))), rfl, ⟨q9, q18, q19, i8, j8, 0, hq_q9, hq_q18, hq_q19, hi8, hj8, rfl, rfl, by unfold kFrame; rw [if_neg (fun z9 => z9.elim c1 (fun z8 => z8.elim c2 (fun z7 => z7.elim c3 (fun z6 => z6.elim c4 (zn8 hj8))))), if_neg (fun z9 => Int32.not_lt.mpr (by rw [← ev7]; exact c8) z9)], zenh_60 c15, rfl⟩, by rw [ht]; exact hP, va_K.moved hW.alike hK, hD⟩, hS.F ht⟩) hS.2.2 dX6_frame_90
                · skip
                  refine lv_iconst (v := 1) hx hb dX6_frame_81 (by decide) ?_
                  refine lv_goto (tgt := 86) hx hb dX6_frame_82 (by decide) ?_
                  refine zcallV (va_runI (As := [.int (nI i8), .int b, .int (nI j8), .int 1]) (rest := [.ref q9, .int (nI i8), .ref f]) ⟨hx, hb, hml, hown, hts⟩ (c_X1_init l dC dI cy (zGn G q9 1 0) (zSn S q9) H.size q9 (nI i8) b (nI j8) 1 hO_q9 (by decide)) (cwI 4 hts gX6_frame_X1_init rfl rfl rfl (hts (.initialized RX1) (by decide +kernel)) (hts (.methodLink RX6 67 yX1_init) (by decide +kernel)) (hts (.instanceMethod yX1_init) (by decide +kernel)) rfl (by decide +kernel) ⟨Nat.le_of_ble_eq_true rfl, Nat.le_of_ble_eq_true rfl⟩) (zpreS hK hP hD hN) rfl rfl hl.1 rfl (lv_room (Nat.le_of_ble_eq_true rfl)) dX6_frame_86 ⟨(Nat.le_of_ble_eq_true rfl), (Nat.le_of_ble_eq_true rfl)⟩) hS hD hA (fun u21 H locs hr20 hP hD hS => ?_)
                  obtain ⟨q22, q23, hq_q22, hq_q23, rfl⟩ := hr20
                  have hO_x := hO_x.gn (kd' := 9) (n := 8) hq_q22
                  have hL_f := (zGn_len' (hO_f.ne hq_q22) 9 8).trans hL_f
                  have hO_f := hO_f.gn (kd' := 9) (n := 8) hq_q22
                  have hO_q9 := hO_q9.gn (kd' := 9) (n := 8) hq_q22
                  have hO_q22 := zO.nw (zGn G q9 1 0) q22 9 8
                  have hL_q22 := zGn_len (zGn G q9 1 0) q22 9 8
                  have hO_x := hO_x.gn (kd' := 8) (n := 8) hq_q23
                  have hL_f := (zGn_len' (hO_f.ne hq_q23) 8 8).trans hL_f
                  have hO_f := hO_f.gn (kd' := 8) (n := 8) hq_q23
                  have hO_q9 := hO_q9.gn (kd' := 8) (n := 8) hq_q23
                  have hL_q22 := (zGn_len' (hO_q22.ne hq_q23) 8 8).trans hL_q22
                  have hO_q22 := hO_q22.gn (kd' := 8) (n := 8) hq_q23
                  have hO_q23 := zO.nw (zGn (zGn G q9 1 0) q22 9 8) q23 8 8
                  have hL_q23 := zGn_len (zGn (zGn G q9 1 0) q22 9 8) q23 8 8
                  have hP : va_P (dC, dI) vwCl (zW cy (zGn (zGn (zGn G q9 1 0) q22 9 8) q23 8 8) (zFi (zSn S q9) q9 q22 q23 (nI i8) b (nI j8) 1)) H := hP
                  have hD : va_D A (zW cy (zGn (zGn (zGn G q9 1 0) q22 9 8) q23 8 8) (zFi (zSn S q9) q9 q22 q23 (nI i8) b (nI j8) 1)) := hD
                  refine zfast hx hb hK hP hD hS hO_f hL_f hO_q9 (vp_in_nI (n := i8) (by omega) (by omega)) dX6_frame_89 (fun H locs hP hD hS => ?_)
                  rw [(nI_clamp (n := i8) (by omega))] at hP hD
                  refine W.widen (k := 3) (n := 25) (Nat.le_of_ble_eq_true rfl) (Nat.le_of_ble_eq_true rfl) ?_
                  refine vx_ret ?_
                  exact W.vret hx hb hr (fun t ht hW => ⟨⟨((zGn (zGn (zGn G q9 1 0) q22 9 8) q23 8 8), (zpq (zFi (zSn S q9) q9 q22 q23 (nI i8) b (nI j8) 1) f i8 (some q9))), rfl, ⟨q9, q22, q23, i8, j8, 1, hq_q9, hq_q22, hq_q23, hi8, hj8, rfl, rfl, by unfold kFrame; rw [if_neg (fun z9 => z9.elim c1 (fun z8 => z8.elim c2 (fun z7 => z7.elim c3 (fun z6 => z6.elim c4 (zn8 hj8))))), if_neg (fun z9 => Int32.not_lt.mpr (by rw [← ev7]; exact c8) z9)], zenh_1 c10 c15, rfl⟩, by rw [ht]; exact hP, va_K.moved hW.alike hK, hD⟩, hS.F ht⟩) hS.2.2 dX6_frame_90
            · skip
              exact zthrowS hx hb hlt hown (hts (.classLink RX6 62 "java/lang/IllegalStateException") (by decide +kernel)) (hts (.initialized "java/lang/IllegalStateException") (by decide +kernel)) (fun w h => hts w (List.mem_cons_of_mem _ (List.mem_append_right _ h))) hE (zEt_64 hE.2.2.2) hP hD hK hS (by rw [hml]; exact hl.1) dX6_frame_48 dX6_frame_51 dX6_frame_52 dX6_frame_54 dX6_frame_57 hxt (Nat.le_of_ble_eq_true rfl) (Nat.le_of_ble_eq_true rfl) (Nat.le_of_ble_eq_true rfl) (Nat.le_of_ble_eq_true rfl) hlocks (fun t hB hF => ⟨(), trivial, ⟨(Or.inr ⟨rfl, by unfold kFrame; rw [if_neg (fun z9 => z9.elim c1 (fun z8 => z8.elim c2 (fun z7 => z7.elim c3 (fun z6 => z6.elim c4 (zn8 hj8))))), if_pos (Int32.not_le.mp (fun z9 => c8 (by rw [ev7]; exact z9)))]⟩), hB⟩, hF⟩) hS.2.2 (Nat.le_of_ble_eq_true rfl) (Nat.le_of_ble_eq_true rfl)
          · skip
            exact zthrowA hx hb hlt hown (hts (.classLink RX6 55 "java/lang/IllegalArgumentException") (by decide +kernel)) (hts (.initialized "java/lang/IllegalArgumentException") (by decide +kernel)) (fun w h => hts w (List.mem_cons_of_mem _ (List.mem_append_left _ (List.mem_append_right _ h)))) hE (zEt_57 hE.2.2.2) hP hD hK hS (by rw [hml]; exact hl.1) dX6_frame_31 dX6_frame_34 dX6_frame_35 dX6_frame_37 dX6_frame_40 hxt (Nat.le_of_ble_eq_true rfl) (Nat.le_of_ble_eq_true rfl) (Nat.le_of_ble_eq_true rfl) (Nat.le_of_ble_eq_true rfl) hlocks (fun t hB hF => ⟨(), trivial, ⟨(Or.inl ⟨rfl, if_pos (Or.inr (Or.inr (Or.inr (Or.inr (zin8b hr5 c6)))))⟩), hB⟩, hF⟩) hS.2.2 (Nat.le_of_ble_eq_true rfl) (Nat.le_of_ble_eq_true rfl)
