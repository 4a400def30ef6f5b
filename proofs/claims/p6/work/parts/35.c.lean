set_option maxHeartbeats 4000000 in
set_option maxRecDepth 100000 in
theorem q_known {p : Program} {s : State} {m : MethodId} {meth : Method} {c : Code} {b L : Nat} {xs : Nat → Int32} (C0 : lw_At p s m meth c b L xs) : ∃ (dC : Nat → ClassId) (dI : Nat → Nat → Nat) (cy : Nat → ClassId), va_K (dC, dI) vwCl (zT cy) s := by
  obtain ⟨-, -, -, -, -, hts0, -, -, -, -⟩ := C0
  obtain ⟨c0, i0, hKn0⟩ := u_known (C := RX0) (T := TX0) (N := 3) (n := 3) hts0 inX0 (hts0 (.instantiable RX0 3) (by decide +kernel))
  obtain ⟨c1, i1, hKn1⟩ := u_known (C := RX1) (T := TX1) (N := 9) (n := 9) hts0 inX1 (hts0 (.instantiable RX1 9) (by decide +kernel))
  obtain ⟨c2, i2, hKn2⟩ := u_known (C := RX2) (T := TX2) (N := 2) (n := 2) hts0 inX2 (hts0 (.instantiable RX2 2) (by decide +kernel))
  obtain ⟨c3, i3, hKn3⟩ := u_known (C := RX3) (T := TX3) (N := 15) (n := 15) hts0 inX3 (hts0 (.instantiable RX3 15) (by decide +kernel))
  obtain ⟨c4, i4, hKn4⟩ := u_known (C := RX4) (T := TX4) (N := 7) (n := 7) hts0 inX4 (hts0 (.instantiable RX4 7) (by decide +kernel))
  obtain ⟨c5, i5, hKn5⟩ := u_known (C := RX5) (T := TX5) (N := 10) (n := 10) hts0 inX5 (hts0 (.instantiable RX5 10) (by decide +kernel))
  obtain ⟨c6, i6, hKn6⟩ := u_known (C := RX6) (T := TX6) (N := 7) (n := 7) hts0 inX6 (hts0 (.instantiable RX6 7) (by decide +kernel))
  obtain ⟨c7, i7, hKn7⟩ := u_known (C := RX7) (T := TX7) (N := 42) (n := 42) hts0 inX7 (hts0 (.instantiable RX7 42) (by decide +kernel))
  obtain ⟨dC, dI, hKc⟩ : ∃ (dC : Nat → ClassId) (dI : Nat → Nat → Nat), ∀ (k : Nat) (q : vw_C), vwCl[k]? = some q → u_Kn s q.1 q.2.1 q.2.2 (dC k) (dI k) := by
    refine ⟨fun k => if k = 0 then c0 else if k = 1 then c1 else if k = 2 then c2 else if k = 3 then c3 else if k = 4 then c4 else if k = 5 then c5 else if k = 6 then c6 else c7, fun k => if k = 0 then i0 else if k = 1 then i1 else if k = 2 then i2 else if k = 3 then i3 else if k = 4 then i4 else if k = 5 then i5 else if k = 6 then i6 else i7, ?_⟩
    intro k q hq
    match k, hq with
    | 0, hq => cases hq; exact hKn0
    | 1, hq => cases hq; exact hKn1
    | 2, hq => cases hq; exact hKn2
    | 3, hq => cases hq; exact hKn3
    | 4, hq => cases hq; exact hKn4
    | 5, hq => cases hq; exact hKn5
    | 6, hq => cases hq; exact hKn6
    | 7, hq => cases hq; exact hKn7
    | k + 8, hq => simp [vwCl] at hq
  obtain ⟨a0, p0, r0⟩ := zArr (hts0 (.arrayClass .int) (by decide +kernel))
  obtain ⟨a1, p1, r1⟩ := zArr (hts0 (.arrayClass .long) (by decide +kernel))
  obtain ⟨a2, p2, r2⟩ := zArr (hts0 (.arrayClass .boolean) (by decide +kernel))
  obtain ⟨a3, p3, r3⟩ := zArrO (va_AO.of (hts0 (.arrayOver (.object RX1)) (by decide +kernel)))
  obtain ⟨a4, p4, r4⟩ := zArrO (va_AO.of (hts0 (.arrayOver (.object RX3)) (by decide +kernel)))
  refine ⟨dC, dI, fun k => if k = 0 then a0 else if k = 1 then a1 else if k = 2 then a2 else if k = 3 then a3 else a4, hKc, fun k q hq => ?_⟩
  match k, hq with
  | 0, hq => cases hq; exact ⟨p0, r0⟩
  | 1, hq => cases hq; exact ⟨p1, r1⟩
  | 2, hq => cases hq; exact ⟨p2, r2⟩
  | 3, hq => cases hq; exact ⟨p3, r3⟩
  | 4, hq => cases hq; exact ⟨p4, r4⟩
  | k + 5, hq => simp [zT] at hq
set_option maxHeartbeats 4000000 in
set_option maxRecDepth 100000 in
theorem q_nest {p : Program} {s : State} {m : MethodId} {meth : Method} {c : Code} {b L : Nat} {xs : Nat → Int32} (C0 : lw_At p s m meth c b L xs) : zN s := by
  obtain ⟨-, -, -, -, -, hts0, -, -, -, -⟩ := C0
  exact ⟨va_Nw.of rfl (hts0 (.methodLinkNest RX6 23 yX5_init RX6) (by decide +kernel)), va_Nw.of rfl (hts0 (.methodLinkNest RX6 30 yX0_init RX6) (by decide +kernel)), va_Nw.of rfl (hts0 (.methodLinkNest RX3 11 yX2_init RX6) (by decide +kernel)), va_Nw.of rfl (hts0 (.methodLinkNest RX3 20 yX4_init RX6) (by decide +kernel)), va_Nw.of rfl (hts0 (.methodLinkNest RX1 40 yX6_pidOf RX6) (by decide +kernel)), va_Nw.of rfl (hts0 (.methodLinkNest RX1 57 yX6_isNode RX6) (by decide +kernel)), va_Nw.of rfl (hts0 (.methodLinkNest RX1 47 yX6_byteOf RX6) (by decide +kernel)), va_Nw.of rfl (hts0 (.methodLinkNest RX5 52 yX6_pidOf RX6) (by decide +kernel)), va_Nw.of rfl (hts0 (.methodLinkNest RX5 55 yX6_characterBit RX6) (by decide +kernel)), va_Nw.of rfl (hts0 (.methodLinkNest RX4 48 yX6_byteOf RX6) (by decide +kernel)), va_Nw.of rfl (hts0 (.methodLinkNest RX4 52 yX6_characterBit RX6) (by decide +kernel)), va_Nw.of rfl (hts0 (.methodLinkNest RX3 106 yX6_idOf RX6) (by decide +kernel))⟩
set_option maxHeartbeats 4000000 in
set_option maxRecDepth 100000 in
theorem q_ex {p : Program} {s : State} {m : MethodId} {meth : Method} {c : Code} {b L : Nat} {xs : Nat → Int32} (C0 : lw_At p s m meth c b L xs) {c6 : ClassId} (h6 : s.vm.findClass RX6 = some c6) : zEx (fun q : Nat => s.heap.size ≤ q) s s.heap ∧ va_Nc "java/lang/IllegalStateException" "java/lang/IllegalArgumentException" s := by
  obtain ⟨-, -, -, -, -, hts0, -, -, -, hgv⟩ := C0
  have hg := flat_of_before _ hgv
  refine ⟨⟨vx_Zqof (hts0 (.laysStatic Bundle.tN "UNASSIGNED_STACK" Bundle.steD) (by decide +kernel)) (hts0 (.initialized Bundle.tN) (by decide +kernel)) (hg (.isRef (.static Bundle.tN "UNASSIGNED_STACK" Bundle.steD)) (by decide +kernel)) (fun a h => Nat.not_le.mpr h), vx_Zqof (hts0 (.laysStatic Bundle.tN "SUPPRESSED_SENTINEL" Bundle.listD) (by decide +kernel)) (hts0 (.initialized Bundle.tN) (by decide +kernel)) (hg (.isRef (.static Bundle.tN "SUPPRESSED_SENTINEL" Bundle.listD)) (by decide +kernel)) (fun a h => Nat.not_le.mpr h), ?_, ?_⟩, va_Nc.of (hg (.not (.castable "java/lang/IllegalStateException" "java/lang/IllegalArgumentException")) (by decide +kernel))⟩
  · exact ⟨va_Nw.of rfl (hts0 (.declares (Bundle.initS "java/lang/RuntimeException")) (by decide +kernel)), va_Nw.of rfl (hts0 (.declares (Bundle.initS "java/lang/Exception")) (by decide +kernel)), va_Nw.of rfl (hts0 (.declares (Bundle.initS Bundle.tN)) (by decide +kernel)), va_Nw.of rfl (hts0 (.castable "java/lang/IllegalArgumentException" "java/lang/IllegalArgumentException") (by decide +kernel)), va_Nw.of rfl (hts0 (.castable "java/lang/IllegalStateException" "java/lang/IllegalStateException") (by decide +kernel))⟩
  · exact ⟨zstr h6 (hts0 (.stringRef RX6 57 "id, length or publisher is out of its bounds") (by decide +kernel)), zstr h6 (hts0 (.stringRef RX6 64 "frames are made in time 0 alone") (by decide +kernel)), zstr h6 (hts0 (.stringRef RX6 77 "no such node or frame, or the node publishes it") (by decide +kernel)), zstr h6 (hts0 (.stringRef RX6 91 "no such node, frame, byte or bit, or another node publishes it") (by decide +kernel)), zstr h6 (hts0 (.stringRef RX6 97 "node or bits is out of its bounds") (by decide +kernel)), zstr h6 (hts0 (.stringRef RX6 103 "no such frame, or bits is out of its bounds") (by decide +kernel)), zstr h6 (hts0 (.stringRef RX6 109 "slots are made in time 0 alone, and there are 16 at most") (by decide +kernel)), zstr h6 (hts0 (.stringRef RX6 115 "no such frame or byte, or v is out of its bounds") (by decide +kernel)), zstr h6 (hts0 (.stringRef RX6 120 "behind or bit is out of its bounds") (by decide +kernel)), zstr h6 (hts0 (.stringRef RX6 125 "200 disturbings are to come") (by decide +kernel)), zstr h6 (hts0 (.stringRef RX6 131 "no such node") (by decide +kernel)), zstr h6 (hts0 (.stringRef RX6 136 "n is out of its bounds") (by decide +kernel)), zstr h6 (hts0 (.stringRef RX6 139 "the time would be above 200000") (by decide +kernel)), zstr h6 (hts0 (.stringRef RX6 147 "no such node, frame or byte, or the node has nothing of it") (by decide +kernel)), zstr h6 (hts0 (.stringRef RX6 157 "no such node or frame, or the node has nothing of it") (by decide +kernel)), zstr h6 (hts0 (.stringRef RX6 162 "node or what is out of its bounds") (by decide +kernel)), zstr h6 (hts0 (.stringRef RX6 173 "what is out of its bounds") (by decide +kernel)), zstr h6 (hts0 (.stringRef RX6 175 "back is out of its bounds") (by decide +kernel)), zstr h6 (hts0 (.stringRef RX6 177 "no such frame") (by decide +kernel))⟩
theorem lw_ltr {l : Launch} (h : l.flags = flags0) : l.stackTraces = false := by
  unfold Launch.stackTraces
  rw [h]
  decide
set_option maxHeartbeats 4000000 in
set_option maxRecDepth 100000 in
theorem whole_start {p : Program} {e : Env} {s : State} {m : MethodId} {below : List Frame} {meth : Method} {c : Code} (l : Launch) (hlt : l.stackTraces = false) {b L : Nat} {xs : Nat → Int32} (hL : L ≤ 2560) (C0 : lw_At p s m meth c b L xs) : W p l e room_1 s m #[Value.ref b] below meth c s.heap [] 0 0 (lw_Z below #[Value.ref b] s) (entryFrame m ([Value.ref b] : List Value).toArray 7) := by
  obtain ⟨dC, dI, cy, hK⟩ := q_known C0
  have hN := q_nest C0
  obtain ⟨hE, hNc⟩ := q_ex C0 (hK.1 6 _ rfl).2.1
  obtain ⟨hx, hb, hr, hml, hown, hts0, hX, hbl, hlocks, hgv⟩ := C0
  have hts : ∀ w ∈ wsL_law, w.before #[Value.ref b] s = true := fun w h => hts0 w (wsL_law_in w h)
  have hA : ∀ q : Nat, s.heap.size ≤ q → (fun q : Nat => s.heap.size ≤ q) q := fun _ h => h
  have hbA : ¬ (fun q : Nat => s.heap.size ≤ q) b := Nat.not_le.mpr hbl
  have hS : va_S (fun q : Nat => s.heap.size ≤ q) s.heap s.heap [] := va_S.rf
  have hP : va_P (dC, dI) vwCl (zW cy zg0 zs0) s.heap := fun k q h => by rw [zw0] at h; simp at h
  have hD : va_D (fun q : Nat => s.heap.size ≤ q) (zW cy zg0 zs0) := ⟨fun i j p q h => by rw [zw0] at h; simp at h, fun k q h => by rw [zw0] at h; simp at h⟩
  have hA1 : va_AO RX1 s := va_AO.of (hts0 (.arrayOver (.object RX1)) (by decide +kernel))
  have hA3 : va_AO RX3 s := va_AO.of (hts0 (.arrayOver (.object RX3)) (by decide +kernel))
  have hl := lv_entry ([.ref b]) (n := 7) (Nat.le_of_ble_eq_true rfl)
  rw [lg_entry_eq]
  generalize (lg_sl ([.ref b]) ++ List.replicate (7 - (lg_sl ([.ref b])).length) Slot.unset).toArray = ls at hl ⊢
  have hl : lv_has ls 7 [(0, .ref b)] := hl
  refine znewo (ci := 6) (C := RX6) (T := TX6) (N := 7) (fs := [.null, .null, .null, .null, .int 0, .int 0, .long 0]) (G := zg0) (S := zs0) hx hb hts0 inX6 tyX6 tyX6_ok hown (hts (.classLink RL 8 RX6) (by decide +kernel)) (hts (.instantiable RX6 7) (by decide +kernel)) (hts (.initialized RX6) (by decide +kernel)) hK hP hD hS hA rfl zdef6 rfl (Nat.le_of_ble_eq_true rfl) (Nat.le_of_ble_eq_true rfl) dL_law_0 (fun x H hq hP hD hS => ?_)
  have hO := zO.nw zg0 x 6 0
  have hR0 : zR0 (zGn zg0 x 6 0) (zSn zs0 x) := fun r _ => by rw [zSn_22]; split <;> rfl
  refine lv_dup hx hb dL_law_3 rfl ?_
  refine zcallV (va_runI (As := []) (rest := [.ref x]) ⟨hx, hb, hml, hown, hts⟩ (c_X6_init l dC dI cy (zGn zg0 x 6 0) (zSn zs0 x) H.size x hO hR0) (cwI 0 hts gL_law_X6_init rfl rfl rfl (hts (.initialized RX6) (by decide +kernel)) (hts (.methodLink RL 66 yX6_init) (by decide +kernel)) (hts (.instanceMethod yX6_init) (by decide +kernel)) rfl (by decide +kernel) ⟨Nat.le_of_ble_eq_true rfl, Nat.le_of_ble_eq_true rfl⟩) (zpre6 hK hP hD hN hA1 hA3) rfl rfl hl.1 rfl (lv_room (Nat.le_of_ble_eq_true rfl)) dL_law_4 ⟨Nat.le_of_ble_eq_true rfl, Nat.le_of_ble_eq_true rfl⟩) hS hD hA (fun u H locs hmk hP hD hS => ?_)
  obtain ⟨f, n, sc, ia, na, d, ka, va, hmk⟩ := hmk
  refine lv_astore_n (lv' := [(1, .ref x), (0, .ref b)]) hx hb dL_law_7 rfl hl (by decide) rfl (fun ls hl => ?_)
  refine znewo (ci := 7) (C := RX7) (T := TX7) (N := 42) (fs := [.int 0, .null, .null, .null, .null, .null, .null, .null, .null, .int 0, .null, .null, .null, .null, .null, .null, .null, .null, .null, .null, .null, .null, .null, .null, .null, .null, .null, .null, .null, .null, .null, .null, .null, .int 0, .int 0, .int 0, .int 0, .int 0, .null, .null, .null, .int 0]) (G := u.1) (S := u.2) hx hb hts0 inX7 tyX7 tyX7_ok hown (hts (.classLink RL 67 RX7) (by decide +kernel)) (hts (.instantiable RX7 42) (by decide +kernel)) (hts (.initialized RX7) (by decide +kernel)) hK hP hD hS hA rfl zdef7 rfl (Nat.le_of_ble_eq_true rfl) (Nat.le_of_ble_eq_true rfl) dL_law_8 (fun mo H hq hP hD hS => ?_)
  obtain ⟨hP1, hD1, hP2, hD2, hAp⟩ := zhalf hq hP hD
  refine lv_dup hx hb dL_law_11 rfl ?_
  refine zc2V (va_runI (As := []) (rest := [.ref mo]) ⟨hx, hb, hml, hown, hts⟩ (c_X7_init l dC dI cy (zGn zg0 mo 7 0) (zSn zs0 mo) H.size mo (zmp0 mo)) (cwI 0 hts gL_law_X7_init rfl rfl rfl (hts (.initialized RX7) (by decide +kernel)) (hts (.methodLink RL 69 yX7_init) (by decide +kernel)) (hts (.instanceMethod yX7_init) (by decide +kernel)) rfl (by decide +kernel) ⟨Nat.le_of_ble_eq_true rfl, Nat.le_of_ble_eq_true rfl⟩) (zpreS hK hP2 hD2 hN) rfl rfl hl.1 rfl (lv_room (Nat.le_of_ble_eq_true rfl)) dL_law_12 ⟨Nat.le_of_ble_eq_true rfl, Nat.le_of_ble_eq_true rfl⟩) hS hD2 hA hP1 hAp.symm (fun u2 H locs hmi hP2 hD2 hP1 hAp hS => ?_)
  obtain ⟨ad, hmi⟩ := hmi
  refine lv_astore_n (lv' := [(2, .ref mo), (1, .ref x), (0, .ref b)]) hx hb dL_law_15 rfl hl (by decide) rfl (fun ls hl => ?_)
  refine lv_iconst (v := 1) hx hb dL_law_16 (by decide) ?_
  refine znew2l hx hb (hts0 (.arrayClass .long) (by decide +kernel)) hK hP1 hD1 hP2 hD2 hAp.symm hS hA (Nat.le_of_ble_eq_true rfl) (Nat.le_of_ble_eq_true rfl) dL_law_17 (fun o H ho hP1 hD1 hP2 hAp hS => ?_)
  refine lv_astore_n (lv' := [(3, .ref o), (2, .ref mo), (1, .ref x), (0, .ref b)]) hx hb dL_law_19 rfl hl (by decide) rfl (fun ls hl => ?_)
  refine lv_iconst (v := 0) hx hb dL_law_20 (by decide) ?_
  refine lv_istore (lv' := [(4, .int (nI (5 * 0))), (3, .ref o), (2, .ref mo), (1, .ref x), (0, .ref b)]) hx hb dL_law_21 hl (by decide) rfl (fun ls hl => ?_)
  refine W.widen (k := 100 + 3 * 0) (n := 8000 + 25 * 0) (Nat.le_of_ble_eq_true rfl) (Nat.le_of_ble_eq_true rfl) ?_
  obtain ⟨hC, hM, hR⟩ := zstart hmk ho hmi
  refine q_loop (c0 := 100) (s0 := 8000) (L := L) (xs := xs) (A := fun q : Nat => s.heap.size ≤ q) ⟨⟨hx, hb, hml, hown, hts⟩, ⟨hX, hbl, hbA, hL⟩, hA, hK, hN, hE, hNc, hlt⟩ (by decide) (by decide) (fun G1 S1 S2 H locs ls cells slots hc hs hS => ?_) 512 0 _ _ _ H locs ls (by omega) (by omega) ⟨⟨hP1, hD1, hP2, hD2, hAp⟩, hS, hC, hM, hR⟩ hl
  refine va_forget (fun q hq => hS.2.2 q hq) ?_
  refine W.widen (k := 777099) (n := 6764806) hc hs ?_
  refine lv_iconst (v := 1) hx hb dL_law_790 (by decide) ?_
  exact lw_ret hx hb hr hlocks dL_law_791
