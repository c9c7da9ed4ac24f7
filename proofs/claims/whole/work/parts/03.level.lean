/-- the reference's cells that its search for a level looks at -/
abbrev ig_w (h0 h1 : Nat) (mo : Int32) (el a0 a1 a3 a4 a5 a6 : Value) (b7 b8 b9 b10 b11 b12 b13 : Int32) : va_W := [(h0, .inr (2, ig_model h1 a0 a1 a3 a4 a5 a6 b7 b8 b9 b10 b11 b12 b13)), (h1, .inr (1, [.int mo, el, .int 0]))]
set_option maxHeartbeats 4000000 in
set_option maxRecDepth 100000 in
/-- the search for a chamber's level in fills(..) of the reference, over a list without nozzles: from level k it comes to its end at level 100, AND THE HEAP IS LONGER BY 100 - k CELLS (one at each look; not more: that is what 'cells' counts) -/
theorem ig_level {p : Program} {l : Launch} {e : Env} {R : Room} {s : State} {m : MethodId} {args : Array Value} {below : List Frame} {meth : Method} {c : Code} {Q : State → Prop} {A : Nat → Prop} {H0 : Heap} {dC : Nat → ClassId} {dI : Nat → Nat → Nat} {h0 h1 : Nat} {mo : Int32} {el a0 a1 a3 a4 a5 a6 : Value} {b7 b8 b9 b10 b11 b12 b13 num ch left : Int32}
    (hx : p.tables.exec = Jvm.exec) (hb : c.code = cX14_fills) (hml : c.maxLocals = 11) (hown : s.vm.findClass RX14 = some m.cls) (hts : ∀ w ∈ wsX14_fills, w.before args s = true) (hK : va_K (dC, dI) ig_cl [] s) (hN : va_Nw ig_N s) (hF : va_Fw RJx35411 ig_x yJx35411_hasNext_aae02 s) (hA : ∀ q, H0.size ≤ q → A q) (hRf : 5 ≤ R.frames) (hRl : 86 ≤ R.locals) (hleft : ¬ left < 0) :
    ∀ (n k : Nat), k + n = 100 → ∀ (H : Heap) (locs : List Loc) (cells slots : Nat), va_P (dC, dI) ig_cl (ig_w h0 h1 mo el a0 a1 a3 a4 a5 a6 b7 b8 b9 b10 b11 b12 b13) H → va_D A (ig_w h0 h1 mo el a0 a1 a3 a4 a5 a6 b7 b8 b9 b10 b11 b12 b13) → va_S A H0 H locs → cells + n ≤ R.cells → slots + 4 * n ≤ R.slots → ∀ ls : Array Slot, lv_has ls 11 [(7, .int (nI k)), (0, .ref h0), (1, .int num), (4, .int left), (6, .int ch)] →
      (∀ (H1 : Heap) (locs1 : List Loc) (ls1 : Array Slot), va_P (dC, dI) ig_cl (ig_w h0 h1 mo el a0 a1 a3 a4 a5 a6 b7 b8 b9 b10 b11 b12 b13) H1 → va_S A H0 H1 locs1 → H.size + n ≤ H1.size → lv_has ls1 11 [(7, .int 100), (0, .ref h0), (1, .int num), (4, .int left), (6, .int ch)] → W p l e R s m args below meth c H1 locs1 (cells + n) (slots + 4 * n) Q (F0 m 113 ls1 [])) →
      W p l e R s m args below meth c H locs cells slots Q (F0 m 84 ls []) := by
  have e100 : nI 100 = 100 := by decide
  intro n
  induction n with
  | zero =>
    intro k hk H locs cells slots hP hD hS hc9 hs9 ls hl kk
    have hk : k = 100 := by omega
    subst hk
    refine lv_iload hx hb dX14_fills_84 (lv_at hl 0 rfl) ?_
    refine lv_bipush (v := 100) hx hb dX14_fills_86 (by decide) ?_
    refine lv_icmp_ge (tgt := 113) hx hb dX14_fills_88 (by decide) (fun _ => ?_) (fun c9 => absurd (by rw [e100]; exact Int32.le_refl 100) c9)
    exact kk H locs ls hP hS (Nat.le_refl _) (by rw [e100] at hl; exact hl)
  | succ n ih =>
    intro k hk H locs cells slots hP hD hS hc9 hs9 ls hl kk
    refine lv_iload hx hb dX14_fills_84 (lv_at hl 0 rfl) ?_
    refine lv_bipush (v := 100) hx hb dX14_fills_86 (by decide) ?_
    refine lv_icmp_ge (tgt := 113) hx hb dX14_fills_88 (by decide) (fun c9 => absurd (by rw [← e100] at c9; exact c9) (nI_ge (by omega) (by decide))) (fun _ => ?_)
    refine lv_aload_n hx hb dX14_fills_91 rfl (lv_at hl 1 rfl) ?_
    refine lv_iload_n hx hb dX14_fills_92 rfl (lv_at hl 2 rfl) ?_
    refine lv_iload hx hb dX14_fills_93 (lv_at hl 4 rfl) ?_
    refine lv_iload hx hb dX14_fills_95 (lv_at hl 0 rfl) ?_
    refine lv_iconst (v := 1) hx hb dX14_fills_97 (by decide) ?_
    refine lv_iadd hx hb dX14_fills_98 ?_
    have hPc := hP.sub (ws' := ig_w h0 h1 mo el a0 a1 a3 a4 a5 a6 b7 b8 b9 b10 b11 b12 b13) [0, 1] rfl
    have hDc := hD.sub (ws' := ig_w h0 h1 mo el a0 a1 a3 a4 a5 a6 b7 b8 b9 b10 b11 b12 b13) [0, 1] (by decide) rfl
    have hKc := hK.sub (tys' := []) [] rfl
    have hFc := va_free (wc := ig_w h0 h1 mo el a0 a1 a3 a4 a5 a6 b7 b8 b9 b10 b11 b12 b13) hD hS hA [0, 1] rfl
    refine va_calli (va_runV (As := [.int num, .int ch, .int (nI k + 1)]) (rest := []) ⟨hx, hb, hml, hown, hts⟩ (ig_given l dC dI h0 h1 H.size mo el num ch (nI k + 1) a0 a1 a3 a4 a5 a6 b7 b8 b9 b10 b11 b12 b13) (cwV 3 hts gX14_fills_X14_given rfl rfl rfl (by decide +kernel) ⟨hRf, hRl⟩) ⟨fun a U g mk q => by obtain ⟨q0, q1, qP, qK, qD, qN, qF⟩ := q; exact ⟨q0, q1, qP, va_K.moved (u := U) (U := U.calling g mk a) (Vm.Alike.refl U.vm) qK, qD, va_Nw.same rfl rfl qN, va_Fw.moved (by decide +kernel) (Vm.Alike.refl U.vm) qF⟩, va_recv hKc hPc (ci := 2) (q0 := 0) rfl rfl, fun U hU hW => ⟨rfl, by rw [hU], by rw [hU]; exact hPc, va_K.moved hW.alike hKc, hDc.weaken (fun _ _ _ _ => trivial), va_Nw.warmF hW hN, va_Fw.moved (by decide +kernel) hW.alike hF⟩⟩ rfl rfl hl.1 rfl (lv_room (Nat.le_of_ble_eq_true rfl)) dX14_fills_99 ⟨by omega, by omega⟩) hS (fun q _ h => hFc q h) hFc (fun r u t H1 locs ht hvm hw hB hz1 hk1 hS => ?_)
    obtain ⟨hbig, hP1, hK1⟩ := hB
    rw [ht] at hP1 hbig
    subst hw
    refine lv_iload hx hb dX14_fills_102 (lv_at hl 3 rfl) ?_
    refine lv_icmp_gt (tgt := 113) hx hb dX14_fills_104 (by decide) (fun c9 => absurd c9 hleft) (fun _ => ?_)
    refine lv_iinc (v := nI (k + 1)) (lv' := [(7, .int (nI (k + 1))), (0, .ref h0), (1, .int num), (4, .int left), (6, .int ch)]) hx hb dX14_fills_107 hl (k := 0) rfl (by rw [nI_succ]; rfl) (by decide) rfl (fun ls hl => ?_)
    refine lv_goto (tgt := 84) hx hb dX14_fills_110 (by decide) ?_
    refine ih (k + 1) (by omega) H1 locs (cells + 1) (slots + 4) hP1 hD hS (by omega) (by omega) ls hl (fun H2 locs2 ls2 qP qS qB qL => ?_)
    have q1 : cells + 1 + n = cells + (n + 1) := by omega
    have q2 : slots + 4 + 4 * n = slots + 4 * (n + 1) := by omega
    rw [q1, q2]
    exact kk H2 locs2 ls2 qP qS (by omega) qL
