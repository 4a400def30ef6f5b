abbrev zPy (dC : Nat → ClassId) (dI : Nat → Nat → Nat) (cy : Nat → ClassId) (av : List Value) (G : zG) (S : zS) (sz : Nat) : Array Value → State → Prop := va_Pc av (fun U => (zU dC dI cy G S sz U ∧ zEx (zA cy G S sz) U U.heap) ∧ va_Nc "java/lang/IllegalStateException" "java/lang/IllegalArgumentException" U)
theorem zblindy {dC : Nat → ClassId} {dI : Nat → Nat → Nat} {cy : Nat → ClassId} {av : List Value} {G : zG} {S : zS} {sz : Nat} : FrameBlind (zPy dC dI cy av G S sz) := fun a U g mk q => by
  obtain ⟨q0, ⟨⟨q1, qP, qK, qD, qN⟩, qE⟩, qC⟩ := q
  exact ⟨q0, ⟨⟨q1, qP, va_K.moved (u := U) (U := U.calling g mk a) (Vm.Alike.refl U.vm) qK, qD, zN.vm (s := U) (U := U.calling g mk a) rfl qN⟩, zEx.vm (s := U) (U := U.calling g mk a) rfl (Vm.Alike.refl U.vm) qE⟩, va_Nc.moved (u := U) (U := U.calling g mk a) (Vm.Alike.refl U.vm) qC⟩
/-- two worlds side by side -/
theorem zP_l {D : va_G} {cl : List vw_C} {w1 w2 : va_W} {H : Heap} (h : va_P D cl (w1 ++ w2) H) : va_P D cl w1 H := fun k q hk => h k q (by
  have hlt := (List.getElem?_eq_some_iff.mp hk).1
  rw [List.getElem?_append_left hlt]; exact hk)
theorem zP_r {D : va_G} {cl : List vw_C} {w1 w2 : va_W} {H : Heap} (h : va_P D cl (w1 ++ w2) H) : va_P D cl w2 H := fun k q hk => h (w1.length + k) q (by
  rw [List.getElem?_append_right (by omega)]; simpa using hk)
theorem zP_app {D : va_G} {cl : List vw_C} {w1 w2 : va_W} {H : Heap} (h1 : va_P D cl w1 H) (h2 : va_P D cl w2 H) : va_P D cl (w1 ++ w2) H := fun k q hk => by
  rcases Nat.lt_or_ge k w1.length with c | c
  · rw [List.getElem?_append_left c] at hk; exact h1 k q hk
  · rw [List.getElem?_append_right c] at hk; exact h2 _ q hk
theorem zD_l {A : Nat → Prop} {w1 w2 : va_W} (h : va_D A (w1 ++ w2)) : va_D A w1 := by
  have e : ∀ k q, w1[k]? = some q → (w1 ++ w2)[k]? = some q := fun k q hk => by
    rw [List.getElem?_append_left (List.getElem?_eq_some_iff.mp hk).1]; exact hk
  exact ⟨fun i j p q hi hj => h.1 i j p q (e i p hi) (e j q hj), fun k q hk => h.2 k q (e k q hk)⟩
theorem zD_r {A : Nat → Prop} {w1 w2 : va_W} (h : va_D A (w1 ++ w2)) : va_D A w2 := by
  have e : ∀ k q, w2[k]? = some q → (w1 ++ w2)[w1.length + k]? = some q := fun k q hk => by
    rw [List.getElem?_append_right (by omega)]; simpa using hk
  exact ⟨fun i j p q hi hj hpq => by have := h.1 _ _ p q (e i p hi) (e j q hj) hpq; omega, fun k q hk => h.2 _ q (e k q hk)⟩
theorem zD_x {A : Nat → Prop} {w1 w2 : va_W} (h : va_D A (w1 ++ w2)) {i j : Nat} {p q : Nat × va_E} (hi : w1[i]? = some p) (hj : w2[j]? = some q) : p.1 ≠ q.1 := fun c => by
  have h1 : (w1 ++ w2)[i]? = some p := by rw [List.getElem?_append_left (List.getElem?_eq_some_iff.mp hi).1]; exact hi
  have h2 : (w1 ++ w2)[w1.length + j]? = some q := by rw [List.getElem?_append_right (by omega)]; simpa using hj
  have := h.1 _ _ p q h1 h2 c
  have hlt := (List.getElem?_eq_some_iff.mp hi).1
  omega
/-- the one of two worlds has changed, with what was made: the other stands -/
theorem zother {A : Nat → Prop} {D : va_G} {cl : List vw_C} {wc wo w1 : va_W} {H H1 : Heap} (hP : va_P D cl wo H) (hx : ∀ (i j : Nat) (p q : Nat × va_E), wc[i]? = some p → wo[j]? = some q → p.1 ≠ q.1) (hk : ∀ q : Nat, q < H.size → ¬ va_A wc H.size q → H1[q]? = H[q]?) (hD1 : va_D (va_A wc H.size) w1) : va_P D cl wo H1 ∧ ∀ (i j : Nat) (p q : Nat × va_E), w1[i]? = some p → wo[j]? = some q → p.1 ≠ q.1 := by
  have hn : ∀ (j : Nat) (q : Nat × va_E), wo[j]? = some q → q.1 < H.size ∧ ¬ va_A wc H.size q.1 := fun j q hq => by
    have hlt := vx_lt hP hq
    refine ⟨hlt, fun c => ?_⟩
    rcases c with ⟨k, e, c⟩ | c
    · exact hx k j _ q c hq rfl
    · omega
  refine ⟨hP.kept (fun k q hq => hk _ (hn k q hq).1 (hn k q hq).2), fun i j p q hi hj c => ?_⟩
  have := hD1.2 i p hi
  rw [c] at this
  exact (hn j q hj).2 this
theorem zD_app {A : Nat → Prop} {w1 w2 : va_W} (h1 : va_D A w1) (h2 : va_D A w2) (hx : ∀ (i j : Nat) (p q : Nat × va_E), w1[i]? = some p → w2[j]? = some q → p.1 ≠ q.1) : va_D A (w1 ++ w2) := h1.app h2 hx
section ZX
variable {p : Program} {l : Launch} {e : Env} {R : Room} {s : State} {m : MethodId} {args : Array Value} {below : List Frame} {meth : Method} {c : Code} {H : Heap} {locs : List Loc} {cells slots mc ms : Nat} {Q : State → Prop}
variable {pc : Nat} {ls : Array Slot} {rest st0 : List Value} {A : Nat → Prop} {H0 : Heap} {dC : Nat → ClassId} {dI : Nat → Nat → Nat} {cy : Nat → ClassId} {G : zG} {S : zS}
theorem zcallXi {post : Int32 → zS → Prop} {XP : String → Prop} {a0 : Array Value} (hr : vx_Run p l e R s m args below meth c H locs cells slots mc ms (F0 m pc ls st0) rest (va_Qi post (zB dC dI cy (zA cy G S H.size) G) (zA cy G S H.size) a0) (vx_X (fun _ : Unit => True) (fun E _ t => XP E ∧ zB dC dI cy (zA cy G S H.size) G S t) (zA cy G S H.size)) (zA cy G S H.size)) (hS : va_S A H0 H locs) (hD : va_D A (zW cy G S)) (hA : ∀ q, H0.size ≤ q → A q)
    (kx : ∀ (E : String) (ce : Cell) (q9 : Addr) (H1 : Heap) (locs1 : List Loc), XP E → va_P (dC, dI) vwCl (zW cy G S) H1 → va_D A (zW cy G S) → va_S A H0 H1 locs1 → H1[q9]? = some ce → ce.vm = .none → s.vm.findClass E = some ce.cls → vx_W p l e R s m args below meth c H1 locs1 (cells + mc) (slots + ms) Q (F0 m pc ls rest) q9)
    (kk : ∀ (r : Int32) (S' : zS) (H1 : Heap) (locs1 : List Loc), post r S' → va_P (dC, dI) vwCl (zW cy G S') H1 → va_D A (zW cy G S') → va_S A H0 H1 locs1 → W p l e R s m args below meth c H1 locs1 (cells + mc) (slots + ms) Q (F0 m (pc + 3) ls (.int r :: rest))) : W p l e R s m args below meth c H locs cells slots Q (F0 m pc ls st0) := by
  have hF := zfree hD hS hA
  refine vx_calli hr hS (fun q _ h => hF q h) hF (fun q _ h => hF q h) (fun E ce q9 u t H1 locs1 ht _ _ hB _ _ hS1 hc1 hc2 hc3 => ?_) (fun r u t H1 locs1 ht _ hw hB _ _ hS1 => ?_)
  · obtain ⟨hxp, hP1, _, hD1⟩ := hB
    rw [ht] at hP1
    exact kx E ce q9 H1 locs1 hxp hP1 (hD1.weaken (fun _ q _ h => hF q.1 h)) hS1 hc1 hc2 hc3
  · obtain ⟨hP1, _, hD1⟩ := hB
    rw [ht] at hP1
    exact kk r u H1 locs1 hw hP1 (hD1.weaken (fun _ q _ h => hF q.1 h)) hS1
theorem zcallXv {post : zS → Prop} {XP : String → Prop} {a0 : Array Value} (hr : vx_Run p l e R s m args below meth c H locs cells slots mc ms (F0 m pc ls st0) rest (va_Qv post (zB dC dI cy (zA cy G S H.size) G) (zA cy G S H.size) a0) (vx_X (fun _ : Unit => True) (fun E _ t => XP E ∧ zB dC dI cy (zA cy G S H.size) G S t) (zA cy G S H.size)) (zA cy G S H.size)) (hS : va_S A H0 H locs) (hD : va_D A (zW cy G S)) (hA : ∀ q, H0.size ≤ q → A q)
    (kx : ∀ (E : String) (ce : Cell) (q9 : Addr) (H1 : Heap) (locs1 : List Loc), XP E → va_P (dC, dI) vwCl (zW cy G S) H1 → va_D A (zW cy G S) → va_S A H0 H1 locs1 → H1[q9]? = some ce → ce.vm = .none → s.vm.findClass E = some ce.cls → vx_W p l e R s m args below meth c H1 locs1 (cells + mc) (slots + ms) Q (F0 m pc ls rest) q9)
    (kk : ∀ (S' : zS) (H1 : Heap) (locs1 : List Loc), post S' → va_P (dC, dI) vwCl (zW cy G S') H1 → va_D A (zW cy G S') → va_S A H0 H1 locs1 → W p l e R s m args below meth c H1 locs1 (cells + mc) (slots + ms) Q (F0 m (pc + 3) ls rest)) : W p l e R s m args below meth c H locs cells slots Q (F0 m pc ls st0) := by
  have hF := zfree hD hS hA
  refine vx_callv hr hS (fun q _ h => hF q h) hF (fun q _ h => hF q h) (fun E ce q9 u t H1 locs1 ht _ _ hB _ _ hS1 hc1 hc2 hc3 => ?_) (fun u t H1 locs1 ht _ hw hB _ _ hS1 => ?_)
  · obtain ⟨hxp, hP1, _, hD1⟩ := hB
    rw [ht] at hP1
    exact kx E ce q9 H1 locs1 hxp hP1 (hD1.weaken (fun _ q _ h => hF q.1 h)) hS1 hc1 hc2 hc3
  · obtain ⟨hP1, _, hD1⟩ := hB
    rw [ht] at hP1
    exact kk u H1 locs1 hw hP1 (hD1.weaken (fun _ q _ h => hF q.1 h)) hS1
theorem zcallXV {post : zG × zS → Prop} {XP : String → Prop} {a0 : Array Value} (hr : vx_Run p l e R s m args below meth c H locs cells slots mc ms (F0 m pc ls st0) rest (va_Qv post (fun u => zB dC dI cy (zA cy G S H.size) u.1 u.2) (zA cy G S H.size) a0) (vx_X (fun _ : Unit => True) (fun E _ t => XP E ∧ zB dC dI cy (zA cy G S H.size) G S t) (zA cy G S H.size)) (zA cy G S H.size)) (hS : va_S A H0 H locs) (hD : va_D A (zW cy G S)) (hA : ∀ q, H0.size ≤ q → A q)
    (kx : ∀ (E : String) (ce : Cell) (q9 : Addr) (H1 : Heap) (locs1 : List Loc), XP E → va_P (dC, dI) vwCl (zW cy G S) H1 → va_D A (zW cy G S) → va_S A H0 H1 locs1 → H1[q9]? = some ce → ce.vm = .none → s.vm.findClass E = some ce.cls → vx_W p l e R s m args below meth c H1 locs1 (cells + mc) (slots + ms) Q (F0 m pc ls rest) q9)
    (kk : ∀ (u : zG × zS) (H1 : Heap) (locs1 : List Loc), post u → va_P (dC, dI) vwCl (zW cy u.1 u.2) H1 → va_D A (zW cy u.1 u.2) → va_S A H0 H1 locs1 → W p l e R s m args below meth c H1 locs1 (cells + mc) (slots + ms) Q (F0 m (pc + 3) ls rest)) : W p l e R s m args below meth c H locs cells slots Q (F0 m pc ls st0) := by
  have hF := zfree hD hS hA
  refine vx_callv hr hS (fun q _ h => hF q h) hF (fun q _ h => hF q h) (fun E ce q9 u t H1 locs1 ht _ _ hB _ _ hS1 hc1 hc2 hc3 => ?_) (fun u t H1 locs1 ht _ hw hB _ _ hS1 => ?_)
  · obtain ⟨hxp, hP1, _, hD1⟩ := hB
    rw [ht] at hP1
    exact kx E ce q9 H1 locs1 hxp hP1 (hD1.weaken (fun _ q _ h => hF q.1 h)) hS1 hc1 hc2 hc3
  · obtain ⟨hP1, _, hD1⟩ := hB
    rw [ht] at hP1
    exact kk u H1 locs1 hw hP1 (hD1.weaken (fun _ q _ h => hF q.1 h)) hS1
end ZX
