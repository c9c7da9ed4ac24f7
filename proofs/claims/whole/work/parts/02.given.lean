/-! What the reference's given(node, chamber, level) makes at each call, over a list without nozzles: one cell more, an iterator. (REPORT.md, STATEMENT: the count.) -/
abbrev ig_cl : List vw_C := [(RJx35411, TJx35411, 4), (RJx4a65c, TJx4a65c, 3), (RX14, TX14, 14)]
theorem ig_itr_init : ∀ w ∈ wsJx354110, w ∈ wsJx35411_init_45d68 := by decide +kernel
theorem ig_al_init : ∀ w ∈ wsJx4a65c0, w ∈ wsJx35411_init_45d68 := by decide +kernel
theorem ig_itr_iter : ∀ w ∈ wsJx354110, w ∈ wsJx4a65c_iterator_32c93 := by decide +kernel
theorem ig_itr_has : ∀ w ∈ wsJx354110, w ∈ wsJx35411_hasNext_aae02 := by decide +kernel
theorem ig_al_has : ∀ w ∈ wsJx4a65c0, w ∈ wsJx35411_hasNext_aae02 := by decide +kernel
theorem ig_x14_given : ∀ w ∈ wsX140, w ∈ wsX14_given := by decide +kernel
set_option maxRecDepth 20000 in
theorem ig_g_iter_init : GoodIn wsJx4a65c_iterator_32c93 wsJx35411_init_45d68 := goodIn_sub (by decide +kernel) (by decide +kernel)
set_option maxHeartbeats 4000000 in
set_option maxRecDepth 100000 in
/-- Itr(list): the list and its count of changes are noted, nothing is made -/
theorem ig_Itr_init (l : Launch) (dC : Nat → ClassId) (dI : Nat → Nat → Nat) (h0 h1 : Nat) (sz : Nat) (mo n : Int32) (el : Value) : Met l yJx35411_init_45d68 wsJx35411_init_45d68 ({ frames := 1, cells := 0, slots := 0, locals := 12 }) (va_Pc [.ref h0, .ref h1] (fun U => U.heap.size = sz ∧ va_P (dC, dI) ig_cl [(h0, .inr (0, [.int 0, .int 0, .int 0, .null])), (h1, .inr (1, [.int mo, el, .int n]))] U.heap ∧ va_K (dC, dI) ig_cl [] U ∧ va_D (fun _ => True) [(h0, .inr (0, [.int 0, .int 0, .int 0, .null])), (h1, .inr (1, [.int mo, el, .int n]))])) (va_Qv (fun _ : Unit => True) (fun _ t => va_P (dC, dI) ig_cl [(h0, .inr (0, [.int 0, .int (-1), .int mo, .ref h1])), (h1, .inr (1, [.int mo, el, .int n]))] t.heap ∧ va_K (dC, dI) ig_cl [] t ∧ va_D (va_A [(h0, .inr (0, [.int 0, .int 0, .int 0, .null])), (h1, .inr (1, [.int mo, el, .int n]))] sz) [(h0, .inr (0, [.int 0, .int (-1), .int mo, .ref h1])), (h1, .inr (1, [.int mo, el, .int n]))]) (va_A [(h0, .inr (0, [.int 0, .int 0, .int 0, .null])), (h1, .inr (1, [.int mo, el, .int n]))] sz)) 0 0 (va_A [(h0, .inr (0, [.int 0, .int 0, .int 0, .null])), (h1, .inr (1, [.int mo, el, .int n]))] sz) := by
  refine Met.ofW (cc := cJx35411_init_45d68) (maxL := 2) (ret := none) (by decide) rfl ?_
  intro p e s m args below meth c s₁ B hml hv
  obtain ⟨rfl, hsz, hP, hK, hD0⟩ := hv
  have hx := B.exec
  have hb := B.bytes
  have hr := B.returns
  have hts := atoms_spec (ws := wsJx35411_init_45d68) B.pre
  have hown : s.vm.findClass RJx35411 = some m.cls := findClass_of_methodNamed B.named
  have hlocks := B.notSynchronized
  have hin : meth.name = "<init>" := (name_of_methodNamed B.named B.method).1
  subst hsz
  have hD := hD0.self (sz := s.heap.size)
  generalize hAe : va_A [(h0, .inr (0, [.int 0, .int 0, .int 0, .null])), (h1, .inr (1, [.int mo, el, .int n]))] s.heap.size = A at hD ⊢
  have hA : ∀ q : Nat, s.heap.size ≤ q → A q := fun q h => by rw [← hAe]; exact Or.inr h
  have hS : va_S A s.heap s.heap [] := va_S.rf
  have hl := lv_entry ([.ref h0, .ref h1]) (n := 2) (Nat.le_of_ble_eq_true rfl)
  rw [lg_entry_eq]
  generalize (lg_sl ([.ref h0, .ref h1]) ++ List.replicate (2 - (lg_sl ([.ref h0, .ref h1])).length) Slot.unset).toArray = ls at hl ⊢
  have hl : lv_has ls 2 [(0, .ref h0), (1, .ref h1)] := hl
  refine lv_aload_n hx hb dJx35411_init_45d68_0 rfl (lv_at hl 0 rfl) ?_
  refine lv_aload_n hx hb dJx35411_init_45d68_1 rfl (lv_at hl 1 rfl) ?_
  refine va_putF (D := (dC, dI)) (ci := 0) (v := .ref h1) (ty := .object "java/util/ArrayList") (C := RJx35411) (T := TJx35411) (N := 4) hx hb hts ig_itr_init tyJx35411 tyJx35411_ok nmJx35411 hown hK hP hD hS 0 rfl rfl 3 (by decide) (hts (.fieldLink RJx35411 1 "java/util/ArrayList$Itr" "this$0" "Ljava/util/ArrayList;") (by decide +kernel)) (fun _ h9 => h9) rfl hin rfl (by decide +kernel) rfl rfl (Nat.le_of_ble_eq_true rfl) dJx35411_init_45d68_2 (fun H locs hP hD hS => ?_)
  have hP : va_P (dC, dI) ig_cl [(h0, .inr (0, [.int 0, .int 0, .int 0, .ref h1])), (h1, .inr (1, [.int mo, el, .int n]))] H := hP
  have hD : va_D A [(h0, .inr (0, [.int 0, .int 0, .int 0, .ref h1])), (h1, .inr (1, [.int mo, el, .int n]))] := hD
  refine lv_aload_n hx hb dJx35411_init_45d68_5 rfl (lv_at hl 0 rfl) ?_
  refine W.objInit hx hb hown (hts (.methodLink RJx35411 7 objectInit) (by decide +kernel)) (hts (.instanceMethod objectInit) (by decide +kernel)) (hts _ (List.mem_cons_of_mem _ (List.mem_append_left _ (List.mem_append_left _ (List.mem_of_getElem? (i := 3) rfl))))) rfl (by rw [hml]; exact hl.1) rfl dJx35411_init_45d68_6 (Nat.le_of_ble_eq_true rfl) (Nat.le_of_ble_eq_true rfl) ?_
  refine W.eq (g2 := F0 m 9 ls []) rfl ?_
  refine lv_aload_n hx hb dJx35411_init_45d68_9 rfl (lv_at hl 0 rfl) ?_
  refine lv_iconst (v := -1) hx hb dJx35411_init_45d68_10 (by decide) ?_
  refine va_put (D := (dC, dI)) (ci := 0) (v := .int (-1)) (ty := .int) (C := RJx35411) (T := TJx35411) (N := 4) hx hb hts ig_itr_init tyJx35411 tyJx35411_ok nmJx35411 hown hK hP hD hS 0 rfl rfl 1 (by decide) (hts (.fieldLink RJx35411 13 "java/util/ArrayList$Itr" "lastRet" "I") (by decide +kernel)) (fun _ h9 => h9) rfl (by decide +kernel) rfl rfl (Nat.le_of_ble_eq_true rfl) dJx35411_init_45d68_11 (fun H locs hP hD hS => ?_)
  have hP : va_P (dC, dI) ig_cl [(h0, .inr (0, [.int 0, .int (-1), .int 0, .ref h1])), (h1, .inr (1, [.int mo, el, .int n]))] H := hP
  have hD : va_D A [(h0, .inr (0, [.int 0, .int (-1), .int 0, .ref h1])), (h1, .inr (1, [.int mo, el, .int n]))] := hD
  refine lv_aload_n hx hb dJx35411_init_45d68_14 rfl (lv_at hl 0 rfl) ?_
  refine lv_aload_n hx hb dJx35411_init_45d68_15 rfl (lv_at hl 0 rfl) ?_
  refine va_get (D := (dC, dI)) (ci := 0) (v := .ref h1) (C := RJx35411) (T := TJx35411) (N := 4) hx hb hts ig_itr_init hown hK hP 0 rfl rfl 3 (by decide) (hts (.fieldLink RJx35411 1 "java/util/ArrayList$Itr" "this$0" "Ljava/util/ArrayList;") (by decide +kernel)) (fun _ h9 => h9) rfl dJx35411_init_45d68_16 ?_
  refine va_get (D := (dC, dI)) (ci := 1) (v := .int mo) (C := RJx4a65c) (T := TJx4a65c) (N := 3) hx hb hts ig_al_init hown hK hP 1 rfl rfl 0 (by decide) (hts (.fieldLink RJx35411 17 "java/util/ArrayList" "modCount" "I") (by decide +kernel)) (fun x9 h9 => u_same (hts (.sameField "java/util/ArrayList" "java/util/AbstractList" "modCount" "I") (by decide +kernel)) x9 h9) rfl dJx35411_init_45d68_19 ?_
  refine va_put (D := (dC, dI)) (ci := 0) (v := .int mo) (ty := .int) (C := RJx35411) (T := TJx35411) (N := 4) hx hb hts ig_itr_init tyJx35411 tyJx35411_ok nmJx35411 hown hK hP hD hS 0 rfl rfl 2 (by decide) (hts (.fieldLink RJx35411 22 "java/util/ArrayList$Itr" "expectedModCount" "I") (by decide +kernel)) (fun _ h9 => h9) rfl (by decide +kernel) rfl rfl (Nat.le_of_ble_eq_true rfl) dJx35411_init_45d68_22 (fun H locs hP hD hS => ?_)
  have hP : va_P (dC, dI) ig_cl [(h0, .inr (0, [.int 0, .int (-1), .int mo, .ref h1])), (h1, .inr (1, [.int mo, el, .int n]))] H := hP
  have hD : va_D A [(h0, .inr (0, [.int 0, .int (-1), .int mo, .ref h1])), (h1, .inr (1, [.int mo, el, .int n]))] := hD
  exact W.vret hx hb hr (fun t ht hW => ⟨⟨(), rfl, trivial, by rw [ht]; exact hP, va_K.moved hW.alike hK, hD⟩, hS.F ht⟩) hS.2.2 dJx35411_init_45d68_25
set_option maxHeartbeats 4000000 in
set_option maxRecDepth 100000 in
/-- ArrayList.iterator(): one new cell of four slots -/
theorem ig_iterator (l : Launch) (dC : Nat → ClassId) (dI : Nat → Nat → Nat) (h1 : Nat) (sz : Nat) (mo n : Int32) (el : Value) : Met l yJx4a65c_iterator_32c93 wsJx4a65c_iterator_32c93 ({ frames := 2, cells := 1, slots := 4, locals := 33 }) (va_Pc [.ref h1] (fun U => U.heap.size = sz ∧ va_P (dC, dI) ig_cl [(h1, .inr (1, [.int mo, el, .int n]))] U.heap ∧ va_K (dC, dI) ig_cl [] U ∧ va_D (fun _ => True) [(h1, .inr (1, [.int mo, el, .int n]))])) (va_Qr (fun _ : Unit => True) (fun _ q t => va_P (dC, dI) ig_cl [(q, .inr (0, [.int 0, .int (-1), .int mo, .ref h1])), (h1, .inr (1, [.int mo, el, .int n]))] t.heap ∧ va_K (dC, dI) ig_cl [] t ∧ va_D (va_A [(h1, .inr (1, [.int mo, el, .int n]))] sz) [(q, .inr (0, [.int 0, .int (-1), .int mo, .ref h1])), (h1, .inr (1, [.int mo, el, .int n]))]) (va_A [(h1, .inr (1, [.int mo, el, .int n]))] sz)) 1 4 (va_A [(h1, .inr (1, [.int mo, el, .int n]))] sz) := by
  refine Met.ofW (cc := cJx4a65c_iterator_32c93) (maxL := 1) (ret := some (.object "java/util/Iterator")) (by decide) rfl ?_
  intro p e s m args below meth c s₁ B hml hv
  obtain ⟨rfl, hsz, hP, hK, hD0⟩ := hv
  have hx := B.exec
  have hb := B.bytes
  have hr := B.returns
  have hts := atoms_spec (ws := wsJx4a65c_iterator_32c93) B.pre
  have hown : s.vm.findClass RJx4a65c = some m.cls := findClass_of_methodNamed B.named
  have hlocks := B.notSynchronized
  subst hsz
  have hD := hD0.self (sz := s.heap.size)
  generalize hAe : va_A [(h1, .inr (1, [.int mo, el, .int n]))] s.heap.size = A at hD ⊢
  have hA : ∀ q : Nat, s.heap.size ≤ q → A q := fun q h => by rw [← hAe]; exact Or.inr h
  have hS : va_S A s.heap s.heap [] := va_S.rf
  have hl := lv_entry ([.ref h1]) (n := 1) (Nat.le_of_ble_eq_true rfl)
  rw [lg_entry_eq]
  generalize (lg_sl ([.ref h1]) ++ List.replicate (1 - (lg_sl ([.ref h1])).length) Slot.unset).toArray = ls at hl ⊢
  have hl : lv_has ls 1 [(0, .ref h1)] := hl
  have h_1 : 0 + 1 ≤ 1 := by decide
  have h_2 : 0 + 4 ≤ 4 := by decide
  refine va_new (ci := 0) (fs := [.int 0, .int 0, .int 0, .null]) (C := RJx35411) (T := TJx35411) (N := 4) hx hb hts ig_itr_iter tyJx35411 tyJx35411_ok hown (hts (.classLink RJx4a65c 267 RJx35411) (by decide +kernel)) (hts (.instantiable RJx35411 4) (by decide +kernel)) (hts (.initialized RJx35411) (by decide +kernel)) hK hP hD hS hA rfl (fun j hj => by rcases (show j = 0 ∨ j = 1 ∨ j = 2 ∨ j = 3 by omega) with rfl | rfl | rfl | rfl <;> rfl) h_1 h_2 dJx4a65c_iterator_32c93_0 (fun q H hP hD hS => ?_)
  have hP : va_P (dC, dI) ig_cl [(h1, .inr (1, [.int mo, el, .int n])), (q, .inr (0, [.int 0, .int 0, .int 0, .null]))] H := hP
  have hD : va_D A [(h1, .inr (1, [.int mo, el, .int n])), (q, .inr (0, [.int 0, .int 0, .int 0, .null]))] := hD
  refine W.widen (k := 1) (n := 4) (by omega) (by omega) ?_
  refine lv_dup hx hb dJx4a65c_iterator_32c93_3 rfl ?_
  refine lv_aload_n hx hb dJx4a65c_iterator_32c93_4 rfl (lv_at hl 0 rfl) ?_
  have hPc := hP.sub (ws' := [(q, .inr (0, [.int 0, .int 0, .int 0, .null])), (h1, .inr (1, [.int mo, el, .int n]))]) [1, 0] rfl
  have hDc := hD.sub (ws' := [(q, .inr (0, [.int 0, .int 0, .int 0, .null])), (h1, .inr (1, [.int mo, el, .int n]))]) [1, 0] (by decide) rfl
  have hKc := hK.sub (tys' := []) [] rfl
  have hFc := va_free (wc := [(q, .inr (0, [.int 0, .int 0, .int 0, .null])), (h1, .inr (1, [.int mo, el, .int n]))]) hD hS hA [1, 0] rfl
  refine va_callv (va_runI (As := [.ref h1]) (rest := [.ref q]) ⟨hx, hb, hml, hown, hts⟩ (ig_Itr_init l dC dI q h1 H.size mo n el) (cwI 1 hts ig_g_iter_init rfl rfl rfl (hts (.initialized RJx35411) (by decide +kernel)) (hts (.methodLink RJx4a65c 269 yJx35411_init_45d68) (by decide +kernel)) (hts (.instanceMethod yJx35411_init_45d68) (by decide +kernel)) rfl (by decide +kernel) ⟨Nat.le_of_ble_eq_true rfl, Nat.le_of_ble_eq_true rfl⟩) ⟨fun a U g mk q => by obtain ⟨q0, q1, qP, qK, qD⟩ := q; exact ⟨q0, q1, qP, va_K.moved (u := U) (U := U.calling g mk a) (Vm.Alike.refl U.vm) qK, qD⟩, fun U hU hW => ⟨rfl, by rw [hU], by rw [hU]; exact hPc, va_K.moved hW.alike hKc, hDc.weaken (fun _ _ _ _ => trivial)⟩⟩ rfl rfl hl.1 rfl (lv_room (Nat.le_of_ble_eq_true rfl)) dJx4a65c_iterator_32c93_5 ⟨Nat.le_refl 1, Nat.le_refl 4⟩) hS (fun q _ h => hFc q h) hFc (fun u t H1 locs ht hvm hw hB hz1 hk1 hS => ?_)
  obtain ⟨hP1, hK1, hD1⟩ := hB
  rw [ht] at hP1
  have hK1 := va_K.moved hvm.symm hK1
  obtain ⟨hP, hD⟩ := va_join (wr := []) (w1 := [(q, .inr (0, [.int 0, .int (-1), .int mo, .ref h1])), (h1, .inr (1, [.int mo, el, .int n]))]) hP hD [1, 0] [] rfl rfl (by decide) (by decide) hk1 hFc hP1 hD1
  have hP : va_P (dC, dI) ig_cl [(q, .inr (0, [.int 0, .int (-1), .int mo, .ref h1])), (h1, .inr (1, [.int mo, el, .int n]))] H1 := hP
  have hD : va_D A [(q, .inr (0, [.int 0, .int (-1), .int mo, .ref h1])), (h1, .inr (1, [.int mo, el, .int n]))] := hD
  exact W.aret hx hb hr (Or.inl ⟨_, rfl⟩) (Or.inr ⟨q, rfl⟩) (fun t ht hW => ⟨⟨(), q, rfl, trivial, by rw [ht]; exact hP, va_K.moved hW.alike hK, hD⟩, hS.F ht⟩) hS.2.2 dJx4a65c_iterator_32c93_8
abbrev ig_N : Cond := .fieldLinkNest RJx35411 28 "java/util/ArrayList" "size" "I" "java/util/ArrayList"
set_option maxHeartbeats 4000000 in
set_option maxRecDepth 100000 in
/-- Itr.hasNext(): whether the place isn't the size; nothing is made -/
theorem ig_hasNextM (l : Launch) (dC : Nat → ClassId) (dI : Nat → Nat → Nat) (h0 h1 : Nat) (sz : Nat) (cu la mo n em : Int32) (el : Value) : Met l yJx35411_hasNext_aae02 wsJx35411_hasNext_aae02 ({ frames := 0, cells := 0, slots := 0, locals := 0 }) (va_Pc [.ref h0] (fun U => U.heap.size = sz ∧ va_P (dC, dI) ig_cl [(h0, .inr (0, [.int cu, .int la, .int em, .ref h1])), (h1, .inr (1, [.int mo, el, .int n]))] U.heap ∧ va_K (dC, dI) ig_cl [] U ∧ va_D (fun _ => True) [(h0, .inr (0, [.int cu, .int la, .int em, .ref h1])), (h1, .inr (1, [.int mo, el, .int n]))] ∧ va_Nw ig_N U)) (va_Qi (fun (r : Int32) (_ : Unit) => r = if cu = n then 0 else 1) (fun _ t => va_P (dC, dI) ig_cl [(h0, .inr (0, [.int cu, .int la, .int em, .ref h1])), (h1, .inr (1, [.int mo, el, .int n]))] t.heap ∧ va_K (dC, dI) ig_cl [] t ∧ va_D (va_A [(h0, .inr (0, [.int cu, .int la, .int em, .ref h1])), (h1, .inr (1, [.int mo, el, .int n]))] sz) [(h0, .inr (0, [.int cu, .int la, .int em, .ref h1])), (h1, .inr (1, [.int mo, el, .int n]))]) (va_A [(h0, .inr (0, [.int cu, .int la, .int em, .ref h1])), (h1, .inr (1, [.int mo, el, .int n]))] sz)) 0 0 (va_A [(h0, .inr (0, [.int cu, .int la, .int em, .ref h1])), (h1, .inr (1, [.int mo, el, .int n]))] sz) := by
  refine Met.ofW (cc := cJx35411_hasNext_aae02) (maxL := 1) (ret := some .boolean) (by decide) rfl ?_
  intro p e s m args below meth c s₁ B hml hv
  obtain ⟨rfl, hsz, hP, hK, hD0, hN⟩ := hv
  have hx := B.exec
  have hb := B.bytes
  have hr := B.returns
  have hts := atoms_spec (ws := wsJx35411_hasNext_aae02) B.pre
  have hown : s.vm.findClass RJx35411 = some m.cls := findClass_of_methodNamed B.named
  have hlocks := B.notSynchronized
  subst hsz
  have hD := hD0.self (sz := s.heap.size)
  generalize hAe : va_A [(h0, .inr (0, [.int cu, .int la, .int em, .ref h1])), (h1, .inr (1, [.int mo, el, .int n]))] s.heap.size = A at hD ⊢
  have hA : ∀ q : Nat, s.heap.size ≤ q → A q := fun q h => by rw [← hAe]; exact Or.inr h
  have hS : va_S A s.heap s.heap [] := va_S.rf
  have hl := lv_entry ([.ref h0]) (n := 1) (Nat.le_of_ble_eq_true rfl)
  rw [lg_entry_eq]
  generalize (lg_sl ([.ref h0]) ++ List.replicate (1 - (lg_sl ([.ref h0])).length) Slot.unset).toArray = ls at hl ⊢
  have hl : lv_has ls 1 [(0, .ref h0)] := hl
  refine lv_aload_n hx hb dJx35411_hasNext_aae02_0 rfl (lv_at hl 0 rfl) ?_
  refine va_get (D := (dC, dI)) (ci := 0) (v := .int cu) (C := RJx35411) (T := TJx35411) (N := 4) hx hb hts ig_itr_has hown hK hP 0 rfl rfl 0 (by decide) (hts (.fieldLink RJx35411 25 "java/util/ArrayList$Itr" "cursor" "I") (by decide +kernel)) (fun _ h9 => h9) rfl dJx35411_hasNext_aae02_1 ?_
  refine lv_aload_n hx hb dJx35411_hasNext_aae02_4 rfl (lv_at hl 0 rfl) ?_
  refine va_get (D := (dC, dI)) (ci := 0) (v := .ref h1) (C := RJx35411) (T := TJx35411) (N := 4) hx hb hts ig_itr_has hown hK hP 0 rfl rfl 3 (by decide) (hts (.fieldLink RJx35411 1 "java/util/ArrayList$Itr" "this$0" "Ljava/util/ArrayList;") (by decide +kernel)) (fun _ h9 => h9) rfl dJx35411_hasNext_aae02_5 ?_
  refine va_getN (D := (dC, dI)) (ci := 1) (v := .int n) (C := RJx4a65c) (T := TJx4a65c) (N := 3) hx hb hts ig_al_has hown hK hP 1 rfl rfl 2 (by decide) (va_Nw.use (w := ig_N) rfl hN) (fun _ h9 => h9) rfl dJx35411_hasNext_aae02_8 ?_
  refine lv_icmp_eq (tgt := 18) hx hb dJx35411_hasNext_aae02_11 (by decide) (fun c1 => ?_) (fun c1 => ?_)
  · refine lv_iconst (v := 0) hx hb dJx35411_hasNext_aae02_18 (by decide) ?_
    exact W.zret (v := 0) hx hb hr (by decide) (fun t ht hW => ⟨⟨0, (), rfl, by rw [if_pos c1], by rw [ht]; exact hP, va_K.moved hW.alike hK, hD⟩, hS.F ht⟩) hS.2.2 dJx35411_hasNext_aae02_19
  · refine lv_iconst (v := 1) hx hb dJx35411_hasNext_aae02_14 (by decide) ?_
    refine lv_goto (tgt := 19) hx hb dJx35411_hasNext_aae02_15 (by decide) ?_
    exact W.zret (v := 1) hx hb hr (by decide) (fun t ht hW => ⟨⟨1, (), rfl, by rw [if_neg c1], by rw [ht]; exact hP, va_K.moved hW.alike hK, hD⟩, hS.F ht⟩) hS.2.2 dJx35411_hasNext_aae02_19
abbrev ig_x : MethodName := ⟨"java/util/Iterator", "hasNext", "()Z"⟩
/-- the reference's cell, its list of nozzles at h1 -/
abbrev ig_model (h1 : Nat) (a0 a1 a3 a4 a5 a6 : Value) (b7 b8 b9 b10 b11 b12 b13 : Int32) : List Value := [a0, a1, .ref h1, a3, a4, a5, a6, .int b7, .int b8, .int b9, .int b10, .int b11, .int b12, .int b13]
set_option maxHeartbeats 4000000 in
set_option maxRecDepth 100000 in
/-- given(node, chamber, level) of the reference, over a list without nozzles: it answers 0, AND THE HEAP IS LONGER THAN BEFORE: by one cell, not more (mc = 1) and not less -/
theorem ig_given (l : Launch) (dC : Nat → ClassId) (dI : Nat → Nat → Nat) (h0 h1 : Nat) (sz : Nat) (mo : Int32) (el : Value) (p1 p2 p3 : Int32) (a0 a1 a3 a4 a5 a6 : Value) (b7 b8 b9 b10 b11 b12 b13 : Int32) : Met l yX14_given wsX14_given ({ frames := 4, cells := 1, slots := 4, locals := 60 }) (va_Pc [.ref h0, .int p1, .int p2, .int p3] (fun U => U.heap.size = sz ∧ va_P (dC, dI) ig_cl [(h0, .inr (2, ig_model h1 a0 a1 a3 a4 a5 a6 b7 b8 b9 b10 b11 b12 b13)), (h1, .inr (1, [.int mo, el, .int 0]))] U.heap ∧ va_K (dC, dI) ig_cl [] U ∧ va_D (fun _ => True) [(h0, .inr (2, ig_model h1 a0 a1 a3 a4 a5 a6 b7 b8 b9 b10 b11 b12 b13)), (h1, .inr (1, [.int mo, el, .int 0]))] ∧ va_Nw ig_N U ∧ va_Fw RJx35411 ig_x yJx35411_hasNext_aae02 U)) (va_Qi (fun (r : Int32) (_ : Unit) => r = 0) (fun _ t => sz + 1 ≤ t.heap.size ∧ va_P (dC, dI) ig_cl [(h0, .inr (2, ig_model h1 a0 a1 a3 a4 a5 a6 b7 b8 b9 b10 b11 b12 b13)), (h1, .inr (1, [.int mo, el, .int 0]))] t.heap ∧ va_K (dC, dI) ig_cl [] t) (va_A [(h0, .inr (2, ig_model h1 a0 a1 a3 a4 a5 a6 b7 b8 b9 b10 b11 b12 b13)), (h1, .inr (1, [.int mo, el, .int 0]))] sz)) 1 4 (va_A [(h0, .inr (2, ig_model h1 a0 a1 a3 a4 a5 a6 b7 b8 b9 b10 b11 b12 b13)), (h1, .inr (1, [.int mo, el, .int 0]))] sz) := by
  refine Met.ofW (cc := cX14_given) (maxL := 7) (ret := some .int) (by decide) rfl ?_
  intro p e s m args below meth c s₁ B hml hv
  obtain ⟨rfl, hsz, hP, hK, hD0, hN, hF⟩ := hv
  have hx := B.exec
  have hb := B.bytes
  have hr := B.returns
  have hts := atoms_spec (ws := wsX14_given) B.pre
  have hown : s.vm.findClass RX14 = some m.cls := findClass_of_methodNamed B.named
  have hlocks := B.notSynchronized
  subst hsz
  have hD := hD0.self (sz := s.heap.size)
  generalize hm : ig_model h1 a0 a1 a3 a4 a5 a6 b7 b8 b9 b10 b11 b12 b13 = fm at hP hD ⊢
  have hm2 : fm[2]? = some (.ref h1) := by rw [← hm]; rfl
  generalize hAe : va_A [(h0, .inr (2, fm)), (h1, .inr (1, [.int mo, el, .int 0]))] s.heap.size = A at hD ⊢
  have hA : ∀ q : Nat, s.heap.size ≤ q → A q := fun q h => by rw [← hAe]; exact Or.inr h
  have hS : va_S A s.heap s.heap [] := va_S.rf
  have hl := lv_entry ([.ref h0, .int p1, .int p2, .int p3]) (n := 7) (Nat.le_of_ble_eq_true rfl)
  rw [lg_entry_eq]
  generalize (lg_sl ([.ref h0, .int p1, .int p2, .int p3]) ++ List.replicate (7 - (lg_sl ([.ref h0, .int p1, .int p2, .int p3])).length) Slot.unset).toArray = ls at hl ⊢
  have hl : lv_has ls 7 [(0, .ref h0), (1, .int p1), (2, .int p2), (3, .int p3)] := hl
  refine lv_iconst (v := 0) hx hb dX14_given_0 (by decide) ?_
  refine lv_istore (lv' := [(4, .int 0), (0, .ref h0), (1, .int p1), (2, .int p2), (3, .int p3)]) hx hb dX14_given_1 hl (by decide) rfl (fun ls hl => ?_)
  refine lv_aload_n hx hb dX14_given_3 rfl (lv_at hl 1 rfl) ?_
  refine va_get (D := (dC, dI)) (ci := 2) (v := .ref h1) (C := RX14) (T := TX14) (N := 14) hx hb hts ig_x14_given hown hK hP 0 rfl rfl 2 (by decide) (hts (.fieldLink RX14 19 "CuratorAquarumModel" "nozzles" "Ljava/util/ArrayList;") (by decide +kernel)) (fun _ h9 => h9) hm2 dX14_given_4 ?_
  have hPc := hP.sub (ws' := [(h1, .inr (1, [.int mo, el, .int 0]))]) [1] rfl
  have hDc := hD.sub (ws' := [(h1, .inr (1, [.int mo, el, .int 0]))]) [1] (by decide) rfl
  have hKc := hK.sub (tys' := []) [] rfl
  have hFc := va_free (wc := [(h1, .inr (1, [.int mo, el, .int 0]))]) hD hS hA [1] rfl
  refine va_callr (va_runV (As := []) (rest := []) ⟨hx, hb, hml, hown, hts⟩ (ig_iterator l dC dI h1 s.heap.size mo 0 el) (cwV 0 hts gX14_given_Jx4a65c_iterator_32c93 rfl rfl rfl (by decide +kernel) ⟨Nat.le_of_ble_eq_true rfl, Nat.le_of_ble_eq_true rfl⟩) ⟨fun a U g mk q => by obtain ⟨q0, q1, qP, qK, qD⟩ := q; exact ⟨q0, q1, qP, va_K.moved (u := U) (U := U.calling g mk a) (Vm.Alike.refl U.vm) qK, qD⟩, va_recv hKc hPc (ci := 1) (q0 := 0) rfl rfl, fun U hU hW => ⟨rfl, by rw [hU], by rw [hU]; exact hPc, va_K.moved hW.alike hKc, hDc.weaken (fun _ _ _ _ => trivial)⟩⟩ rfl rfl hl.1 rfl (lv_room (Nat.le_of_ble_eq_true rfl)) dX14_given_7 ⟨Nat.le_refl 1, Nat.le_refl 4⟩) hS (fun q _ h => hFc q h) hFc (fun u q t H1 locs ht hvm hw hB hz1 hk1 hS => ?_)
  obtain ⟨hP1, hK1, hD1⟩ := hB
  rw [ht] at hP1
  have hK1 := va_K.moved hvm.symm hK1
  have hq : s.heap.size ≤ q := by
    rcases hD1.2 0 _ rfl with ⟨k, e9, hk⟩ | h
    · match k, hk with
      | 0, hk =>
        have h9 : h1 = q := by simpa using congrArg (Option.map Prod.fst) hk
        exact absurd (hD1.1 0 1 _ _ rfl rfl h9.symm) (by decide)
    · exact h
  obtain ⟨hP, hD⟩ := va_join (wr := [(h0, .inr (2, fm))]) (w1 := [(q, .inr (0, [.int 0, .int (-1), .int mo, .ref h1])), (h1, .inr (1, [.int mo, el, .int 0]))]) hP hD [1] [0] rfl rfl (by decide) (by decide) hk1 hFc hP1 hD1
  have hP : va_P (dC, dI) ig_cl [(h0, .inr (2, fm)), (q, .inr (0, [.int 0, .int (-1), .int mo, .ref h1])), (h1, .inr (1, [.int mo, el, .int 0]))] H1 := hP
  have hD : va_D A [(h0, .inr (2, fm)), (q, .inr (0, [.int 0, .int (-1), .int mo, .ref h1])), (h1, .inr (1, [.int mo, el, .int 0]))] := hD
  have hbig : s.heap.size + 1 ≤ H1.size := Nat.lt_of_le_of_lt hq (va_at.lt (hP 1 _ rfl))
  refine lv_astore (lv' := [(5, .ref q), (4, .int 0), (0, .ref h0), (1, .int p1), (2, .int p2), (3, .int p3)]) hx hb dX14_given_10 hl (by decide) rfl (fun ls hl => ?_)
  refine lv_aload hx hb dX14_given_12 (lv_at hl 0 rfl) ?_
  have hPc := hP.sub (ws' := [(q, .inr (0, [.int 0, .int (-1), .int mo, .ref h1])), (h1, .inr (1, [.int mo, el, .int 0]))]) [1, 2] rfl
  have hDc := hD.sub (ws' := [(q, .inr (0, [.int 0, .int (-1), .int mo, .ref h1])), (h1, .inr (1, [.int mo, el, .int 0]))]) [1, 2] (by decide) rfl
  have hFc := va_free (wc := [(q, .inr (0, [.int 0, .int (-1), .int mo, .ref h1])), (h1, .inr (1, [.int mo, el, .int 0]))]) hD hS hA [1, 2] rfl
  refine va_callFi (va_runF (As := []) (rest := []) (hK.1 0 _ rfl).2 ⟨hx, hb, hml, hown, hts⟩ (ig_hasNextM l dC dI q h1 H1.size 0 (-1) mo 0 mo el) (va_cwF 0 hts gX14_given_Jx35411_hasNext_aae02_f144Jx35411 rfl rfl rfl hF (by decide +kernel) ⟨Nat.le_of_ble_eq_true rfl, Nat.le_of_ble_eq_true rfl⟩) ⟨fun a U g mk q => by obtain ⟨q0, q1, qP, qK, qD, qN⟩ := q; exact ⟨q0, q1, qP, va_K.moved (u := U) (U := U.calling g mk a) (Vm.Alike.refl U.vm) qK, qD, va_Nw.same rfl rfl qN⟩, va_recv hKc hPc (ci := 0) (q0 := 0) rfl rfl, fun U hU hW => ⟨rfl, by rw [hU], by rw [hU]; exact hPc, va_K.moved hW.alike hKc, hDc.weaken (fun _ _ _ _ => trivial), va_Nw.warmF hW hN⟩⟩ rfl rfl hl.1 rfl (lv_room (Nat.le_of_ble_eq_true rfl)) dX14_given_14 ⟨Nat.le_refl 1, Nat.le_refl 4⟩) hS (fun q _ h => hFc q h) hFc (fun r u t H2 locs ht hvm hw hB hz2 hk2 hS => ?_)
  obtain ⟨hP2, hK2, hD2⟩ := hB
  rw [ht] at hP2
  obtain ⟨hP, hD⟩ := va_join (wr := [(h0, .inr (2, fm))]) (w1 := [(q, .inr (0, [.int 0, .int (-1), .int mo, .ref h1])), (h1, .inr (1, [.int mo, el, .int 0]))]) hP hD [1, 2] [0] rfl rfl (by decide) (by decide) hk2 hFc hP2 hD2
  have hP : va_P (dC, dI) ig_cl [(h0, .inr (2, fm)), (q, .inr (0, [.int 0, .int (-1), .int mo, .ref h1])), (h1, .inr (1, [.int mo, el, .int 0]))] H2 := hP
  have hr0 : r = 0 := by rw [hw]; rfl
  subst hr0
  refine lv_if_eq (tgt := 75) hx hb dX14_given_19 (by decide) (fun _ => ?_) (fun c9 => absurd rfl c9)
  refine lv_iload hx hb dX14_given_75 (lv_at hl 1 rfl) ?_
  have hP9 := hP.sub (ws' := [(h0, .inr (2, fm)), (h1, .inr (1, [.int mo, el, .int 0]))]) [0, 2] rfl
  exact W.iret (v := 0) hx hb hr (fun t ht hW => ⟨⟨0, (), rfl, rfl, by rw [ht]; exact Nat.le_trans hbig hz2, by rw [ht]; exact hP9, va_K.moved hW.alike hK⟩, hS.F ht⟩) hS.2.2 dX14_given_77
