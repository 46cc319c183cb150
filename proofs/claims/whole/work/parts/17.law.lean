/-! the law's loop -/
section FK7
variable {p : Program} {l : Launch} {e : Env} {R : Room} {s : State} {m : MethodId} {args : Array Value} {below : List Frame} {meth : Method} {c : Code} {H H0 : Heap} {locs : List Loc} {cells slots : Nat} {Q : State → Prop} {cc : ByteArray} {pc : Nat} {ls : Array Slot} {rest : List Value} {A : Nat → Prop}
theorem fh_sld (hexec : p.tables.exec = Jvm.exec) (hb : c.code = cc) {b L k : Nat} {xs : Nat → Int32} (hX : va_X b L xs s H0) (hbl : b < H0.size) (hbA : ¬ A b) (hS : va_S A H0 H locs) (hk : k < L) (hL : L < 2 ^ 31) (hdg : decode cc pc = .ok (.iaload, 1))
    (kk : W p l e R s m args below meth c H locs cells slots Q (F0 m (pc + 1) ls (.int (xs k) :: rest))) : W p l e R s m args below meth c H locs cells slots Q (F0 m pc ls (.int (nI k) :: .ref b :: rest)) := by
  refine va_sld hexec hb hX hbl hbA hS (vp_in_nI hk hL) hdg ?_
  rw [nI_clamp (Nat.lt_trans hk hL)]
  exact kk
end FK7
theorem l6 {L i : Nat} (hL : L ≤ 3072) (hi : i ≤ L) : nI L - nI 6 < nI i ↔ L < i + 6 := by
  rw [Int32.lt_iff_toInt_lt, pk_sub_toInt (by omega) (by omega), nI_toInt (by omega)]
  omega
theorem pS_AO {D : va_G} {cl : List vw_C} {tys : List (ClassId × FieldType)} {ws : va_W} {A : Nat → Prop} {s : State} {H : Heap} {As : List Value} {C : String} (hK : va_K D cl tys s) (hP : va_P D cl ws H) (hD : va_D A ws) (hO : va_AO C s) : PreS s H (va_Pc As (fun U => PW D cl tys ws H.size U ∧ va_AO C U)) As := by
  refine ⟨fun a U g mk q => ?_, fun U hU hW => ?_⟩
  · obtain ⟨q0, ⟨q1, qP, qK, qD⟩, qO⟩ := q
    exact ⟨q0, ⟨q1, qP, va_K.moved (u := U) (U := U.calling g mk a) (Vm.Alike.refl U.vm) qK, qD⟩, va_AO.moved (u := U) (U := U.calling g mk a) (Vm.Alike.refl U.vm) qO⟩
  · exact ⟨rfl, ⟨by rw [hU], by rw [hU]; exact hP, va_K.moved hW.alike hK, hD.weaken (fun _ _ _ _ => trivial)⟩, va_AO.moved hW.alike hO⟩
set_option maxHeartbeats 4000000 in
set_option maxRecDepth 100000 in
theorem law_loop {p : Program} {e : Env} {s : State} {m : MethodId} {below : List Frame} {meth : Method} {c : Code} (l : Launch) {dC : Nat → ClassId} {dI : Nat → Nat → Nat} {b L : Nat} {xs : Nat → Int32} (hL : L ≤ 3072) (C0 : lw_At p s m meth c b L xs) {A : Nat → Prop} (hA : ∀ q, s.heap.size ≤ q → A q) (hA2 : ∀ q, A q → s.heap.size ≤ q) (hbA : ¬ A b) (cI cS cJ cB cZ : ClassId) (h tr sl : Nat) (a : Nat → Nat) (hK : va_K (dC, dI) vwCl [(cI, .int), (cS, tDg), (cJ, .int), (cB, .byte), (cZ, .boolean)] s) (q : Nat) (T : Nat → Int32) (dw : Nat) (cw : Nat) (D : Nat → Nat) (C : Nat → Nat) (wc : Int32) (nw : Int32) (ds : Nat → Dg) (wd : Dg) (U : Nat → Int32) (se : Nat → Int32) (id : Nat → Int32) (pr : Nat → Int32) (en : Nat → Int32) (be : Nat → Int32) (th : Nat → Int32) (bs : Nat → Int32) (wh : Nat → Int32) (qm : Nat) (len : Int32) (md : Int32) (nm : Int32) {H : Heap} {locs : List Loc} {ls : Array Slot} (hSM : SM T q wc nw ds wd U se id pr en be th bs wh qm len md nm) (hP : va_P (dC, dI) vwCl (wH cI cS h tr sl dw cw D C T (nI q) wc nw ds wd ++ wM cJ cB cZ a U se id pr en be th bs wh (nI qm) len md nm) H) (hD : va_D A (wH cI cS h tr sl dw cw D C T (nI q) wc nw ds wd ++ wM cJ cB cZ a U se id pr en be th bs wh (nI qm) len md nm)) (hS : va_S A s.heap H locs) (hl : lv_has ls 4 [(0, .ref b), (1, .ref h), (2, .ref (a 0)), (3, .int (nI 0))]) : W p l e room_1 s m #[Value.ref b] below meth c H locs 600000 7302250 (lw_Z below #[Value.ref b] s) (F0 m 18 ls []) := by
  obtain ⟨hx, hb, hr, hml, hown, hts, hX, hbl, hlocks, hgv⟩ := C0
  have hown : s.vm.findClass RL = some m.cls := hown
  have hts : ∀ w ∈ wsL_law, w.before #[Value.ref b] s = true := fun w h => hts w (wsL_law_in w h)
  refine fh_loop (σ := Nat × Nat × (Nat → Int32) × Nat × Nat × (Nat → Nat) × (Nat → Nat) × Int32 × Int32 × (Nat → Dg) × Dg × (Nat → Int32) × (Nat → Int32) × (Nat → Int32) × (Nat → Int32) × (Nat → Int32) × (Nat → Int32) × (Nat → Int32) × (Nat → Int32) × (Nat → Int32) × Nat × Int32 × Int32 × Int32) (fun q9 H locs ls => (q9.1 ≤ L) ∧ (SM q9.2.2.1 q9.2.1 q9.2.2.2.2.2.2.2.1 q9.2.2.2.2.2.2.2.2.1 q9.2.2.2.2.2.2.2.2.2.1 q9.2.2.2.2.2.2.2.2.2.2.1 q9.2.2.2.2.2.2.2.2.2.2.2.1 q9.2.2.2.2.2.2.2.2.2.2.2.2.1 q9.2.2.2.2.2.2.2.2.2.2.2.2.2.1 q9.2.2.2.2.2.2.2.2.2.2.2.2.2.2.1 q9.2.2.2.2.2.2.2.2.2.2.2.2.2.2.2.1 q9.2.2.2.2.2.2.2.2.2.2.2.2.2.2.2.2.1 q9.2.2.2.2.2.2.2.2.2.2.2.2.2.2.2.2.2.1 q9.2.2.2.2.2.2.2.2.2.2.2.2.2.2.2.2.2.2.1 q9.2.2.2.2.2.2.2.2.2.2.2.2.2.2.2.2.2.2.2.1 q9.2.2.2.2.2.2.2.2.2.2.2.2.2.2.2.2.2.2.2.2.1 q9.2.2.2.2.2.2.2.2.2.2.2.2.2.2.2.2.2.2.2.2.2.1 q9.2.2.2.2.2.2.2.2.2.2.2.2.2.2.2.2.2.2.2.2.2.2.1 q9.2.2.2.2.2.2.2.2.2.2.2.2.2.2.2.2.2.2.2.2.2.2.2) ∧ va_P (dC, dI) vwCl (wH cI cS h tr sl q9.2.2.2.1 q9.2.2.2.2.1 q9.2.2.2.2.2.1 q9.2.2.2.2.2.2.1 q9.2.2.1 (nI q9.2.1) q9.2.2.2.2.2.2.2.1 q9.2.2.2.2.2.2.2.2.1 q9.2.2.2.2.2.2.2.2.2.1 q9.2.2.2.2.2.2.2.2.2.2.1 ++ wM cJ cB cZ a q9.2.2.2.2.2.2.2.2.2.2.2.1 q9.2.2.2.2.2.2.2.2.2.2.2.2.1 q9.2.2.2.2.2.2.2.2.2.2.2.2.2.1 q9.2.2.2.2.2.2.2.2.2.2.2.2.2.2.1 q9.2.2.2.2.2.2.2.2.2.2.2.2.2.2.2.1 q9.2.2.2.2.2.2.2.2.2.2.2.2.2.2.2.2.1 q9.2.2.2.2.2.2.2.2.2.2.2.2.2.2.2.2.2.1 q9.2.2.2.2.2.2.2.2.2.2.2.2.2.2.2.2.2.2.1 q9.2.2.2.2.2.2.2.2.2.2.2.2.2.2.2.2.2.2.2.1 (nI q9.2.2.2.2.2.2.2.2.2.2.2.2.2.2.2.2.2.2.2.2.1) q9.2.2.2.2.2.2.2.2.2.2.2.2.2.2.2.2.2.2.2.2.2.1 q9.2.2.2.2.2.2.2.2.2.2.2.2.2.2.2.2.2.2.2.2.2.2.1 q9.2.2.2.2.2.2.2.2.2.2.2.2.2.2.2.2.2.2.2.2.2.2.2) H ∧ va_D A (wH cI cS h tr sl q9.2.2.2.1 q9.2.2.2.2.1 q9.2.2.2.2.2.1 q9.2.2.2.2.2.2.1 q9.2.2.1 (nI q9.2.1) q9.2.2.2.2.2.2.2.1 q9.2.2.2.2.2.2.2.2.1 q9.2.2.2.2.2.2.2.2.2.1 q9.2.2.2.2.2.2.2.2.2.2.1 ++ wM cJ cB cZ a q9.2.2.2.2.2.2.2.2.2.2.2.1 q9.2.2.2.2.2.2.2.2.2.2.2.2.1 q9.2.2.2.2.2.2.2.2.2.2.2.2.2.1 q9.2.2.2.2.2.2.2.2.2.2.2.2.2.2.1 q9.2.2.2.2.2.2.2.2.2.2.2.2.2.2.2.1 q9.2.2.2.2.2.2.2.2.2.2.2.2.2.2.2.2.1 q9.2.2.2.2.2.2.2.2.2.2.2.2.2.2.2.2.2.1 q9.2.2.2.2.2.2.2.2.2.2.2.2.2.2.2.2.2.2.1 q9.2.2.2.2.2.2.2.2.2.2.2.2.2.2.2.2.2.2.2.1 (nI q9.2.2.2.2.2.2.2.2.2.2.2.2.2.2.2.2.2.2.2.2.1) q9.2.2.2.2.2.2.2.2.2.2.2.2.2.2.2.2.2.2.2.2.2.1 q9.2.2.2.2.2.2.2.2.2.2.2.2.2.2.2.2.2.2.2.2.2.2.1 q9.2.2.2.2.2.2.2.2.2.2.2.2.2.2.2.2.2.2.2.2.2.2.2) ∧ va_S A s.heap H locs ∧ lv_has ls 4 [(0, .ref b), (1, .ref h), (2, .ref (a 0)), (3, .int (nI q9.1))]) (fun q9 => L + 6 - q9.1) ?_ (0, q, T, dw, cw, D, C, wc, nw, ds, wd, U, se, id, pr, en, be, th, bs, wh, qm, len, md, nm) ⟨Nat.zero_le _, hSM, hP, hD, hS, lv_sub hl [0, 1, 2, 3] rfl⟩
  intro q9 H locs ls hI ih
  obtain ⟨i, q, T, dw, cw, D, C, wc, nw, ds, wd, U, se, id, pr, en, be, th, bs, wh, qm, len, md, nm⟩ := q9
  obtain ⟨hi, hSM, hP, hD, hS, hl⟩ : (i ≤ L) ∧ (SM T q wc nw ds wd U se id pr en be th bs wh qm len md nm) ∧ va_P (dC, dI) vwCl (wH cI cS h tr sl dw cw D C T (nI q) wc nw ds wd ++ wM cJ cB cZ a U se id pr en be th bs wh (nI qm) len md nm) H ∧ va_D A (wH cI cS h tr sl dw cw D C T (nI q) wc nw ds wd ++ wM cJ cB cZ a U se id pr en be th bs wh (nI qm) len md nm) ∧ va_S A s.heap H locs ∧ lv_has ls 4 [(0, .ref b), (1, .ref h), (2, .ref (a 0)), (3, .int (nI i))] := hI
  refine lv_iload_n hx hb dL_law_18 rfl (lv_at hl 3 rfl) ?_
  refine lv_aload_n hx hb dL_law_19 rfl (lv_at hl 0 rfl) ?_
  refine va_slen hx hb hX hbl hbA hS dL_law_20 ?_
  refine fh_top (y := nI L) rfl ?_
  refine lv_bipush (v := nI 6) hx hb dL_law_21 (by first | decide | rfl) ?_
  refine lv_isub hx hb dL_law_23 ?_
  refine lv_icmp_gt (tgt := 336) hx hb dL_law_24 (by decide) (fun c24 => ?_) (fun c24 => ?_)
  · skip
    refine lv_iconst (v := 1) hx hb dL_law_336 (by first | decide | rfl) ?_
    refine va_forget (fun q hq => hA2 _ (hS.2.2 q hq)) ?_
    exact lw_ret hx hb hr hlocks dL_law_337
  · skip
    have h6 : i + 6 ≤ L := by rcases Nat.lt_or_ge L (i + 6) with z | z; exact absurd ((l6 hL hi).mpr z) c24; exact z
    refine lv_aload_n hx hb dL_law_27 rfl (lv_at hl 0 rfl) ?_
    refine lv_iload_n hx hb dL_law_28 rfl (lv_at hl 3 rfl) ?_
    refine fh_sld (k := i) hx hb hX hbl hbA hS (by omega) (by omega) dL_law_29 ?_
    refine lv_bipush (v := 7) hx hb dL_law_30 (by first | decide | rfl) ?_
    refine lv_iand hx hb dL_law_32 ?_
    obtain ⟨sw, hsw, esw⟩ := pk_andE (xs i) (m := 7) 3 (by decide)
    refine fh_top (y := nI sw) esw ?_
    rcases (show sw = 0 ∨ sw = 1 ∨ sw = 2 ∨ sw = 3 ∨ sw = 4 ∨ sw = 5 ∨ sw = 6 ∨ sw = 7 by omega) with rfl | rfl | rfl | rfl | rfl | rfl | rfl | rfl
    · refine lv_tableIn (off := 47) (tgt := 80) hx hb dL_law_33 (by decide) (by decide) (by decide) (by decide) ?_
      refine lv_aload_n hx hb dL_law_80 rfl (lv_at hl 1 rfl) ?_
      refine lv_aload_n hx hb dL_law_81 rfl (lv_at hl 0 rfl) ?_
      refine lv_iload_n hx hb dL_law_82 rfl (lv_at hl 3 rfl) ?_
      refine lv_iconst (v := nI 1) hx hb dL_law_83 (by first | decide | rfl) ?_
      refine lv_iadd hx hb dL_law_84 ?_
      refine fh_top (y := nI (i + 1)) (nI_add i 1) ?_
      refine fh_sld (k := (i + 1)) hx hb hX hbl hbA hS (by omega) (by omega) dL_law_85 ?_
      refine lv_aload_n hx hb dL_law_86 rfl (lv_at hl 0 rfl) ?_
      refine lv_iload_n hx hb dL_law_87 rfl (lv_at hl 3 rfl) ?_
      refine lv_iconst (v := nI 2) hx hb dL_law_88 (by first | decide | rfl) ?_
      refine lv_iadd hx hb dL_law_89 ?_
      refine fh_top (y := nI (i + 2)) (nI_add i 2) ?_
      refine fh_sld (k := (i + 2)) hx hb hX hbl hbA hS (by omega) (by omega) dL_law_90 ?_
      refine lv_aload_n hx hb dL_law_91 rfl (lv_at hl 0 rfl) ?_
      refine lv_iload_n hx hb dL_law_92 rfl (lv_at hl 3 rfl) ?_
      refine lv_iconst (v := nI 3) hx hb dL_law_93 (by first | decide | rfl) ?_
      refine lv_iadd hx hb dL_law_94 ?_
      refine fh_top (y := nI (i + 3)) (nI_add i 3) ?_
      refine fh_sld (k := (i + 3)) hx hb hX hbl hbA hS (by omega) (by omega) dL_law_95 ?_
      refine lv_aload_n hx hb dL_law_96 rfl (lv_at hl 0 rfl) ?_
      refine lv_iload_n hx hb dL_law_97 rfl (lv_at hl 3 rfl) ?_
      refine lv_iconst (v := nI 4) hx hb dL_law_98 (by first | decide | rfl) ?_
      refine lv_iadd hx hb dL_law_99 ?_
      refine fh_top (y := nI (i + 4)) (nI_add i 4) ?_
      refine fh_sld (k := (i + 4)) hx hb hX hbl hbA hS (by omega) (by omega) dL_law_100 ?_
      refine lv_aload_n hx hb dL_law_101 rfl (lv_at hl 0 rfl) ?_
      refine lv_iload_n hx hb dL_law_102 rfl (lv_at hl 3 rfl) ?_
      refine lv_iconst (v := nI 5) hx hb dL_law_103 (by first | decide | rfl) ?_
      refine lv_iadd hx hb dL_law_104 ?_
      refine fh_top (y := nI (i + 5)) (nI_add i 5) ?_
      refine fh_sld (k := (i + 5)) hx hb hX hbl hbA hS (by omega) (by omega) dL_law_105 ?_
      have hK0 := hK
      have hK : va_K (dC, dI) vwCl [(cI, .int), (cS, tDg)] s := hK.sub [0, 1] rfl
      have hPc := hP.sub (ws' := wH cI cS h tr sl dw cw D C T (nI q) wc nw ds wd) [0, 1, 2, 3, 4, 5, 6, 7, 8, 9, 10, 11, 12] rfl
      have hDc := hD.sub (ws' := wH cI cS h tr sl dw cw D C T (nI q) wc nw ds wd) [0, 1, 2, 3, 4, 5, 6, 7, 8, 9, 10, 11, 12] (by decide) rfl
      refine fh_ci (wr := wM cJ cB cZ a U se id pr en be th bs wh (nI qm) len md nm) (w2 := fun u => wH cI cS h tr sl dw cw D C u.1 (nI u.2) wc nw ds wd ++ wM cJ cB cZ a U se id pr en be th bs wh (nI qm) len md nm) (va_runV (As := [.int (xs ((i + 1))), .int (xs ((i + 2))), .int (xs ((i + 3))), .int (xs ((i + 4))), .int (xs ((i + 5)))]) (rest := []) ⟨hx, hb, hml, hown, hts⟩ (c_feed l dC dI cI cS h tr sl dw cw D C T (nI q) wc nw ds wd (xs (i + 1)) (xs (i + 2)) (xs (i + 3)) (xs (i + 4)) (xs (i + 5)) q H.size (SM_q hSM)) (cwV 5 hts gL_law_X1_feed rfl rfl rfl (by decide +kernel) ⟨Nat.le_of_ble_eq_true rfl, Nat.le_of_ble_eq_true rfl⟩) (pV_PW hK hPc hDc (ci := 1) (q0 := 0) rfl rfl) rfl rfl hl.1 rfl (lv_room (Nat.le_of_ble_eq_true rfl)) dL_law_106 ⟨Nat.le_of_ble_eq_true rfl, Nat.le_of_ble_eq_true rfl⟩) hP hD hS hA [0, 1, 2, 3, 4, 5, 6, 7, 8, 9, 10, 11, 12] [13, 14, 15, 16, 17, 18, 19, 20, 21, 22] [10, 11, 12, 13, 14, 15, 16, 17, 18, 19, 20, 21, 22, 0, 1, 2, 3, 4, 5, 6, 7, 8, 9] rfl rfl (by decide) (by decide) (by decide) (fun _ => rfl) (fun r1 u1 H locs hw hK hP hD hS => ?_)
      have hK := hK0
      have hw1 := hw
      have hP : va_P (dC, dI) vwCl (wH cI cS h tr sl dw cw D C u1.1 (nI u1.2) wc nw ds wd ++ wM cJ cB cZ a U se id pr en be th bs wh (nI qm) len md nm) H := hP
      have hD : va_D A (wH cI cS h tr sl dw cw D C u1.1 (nI u1.2) wc nw ds wd ++ wM cJ cB cZ a U se id pr en be th bs wh (nI qm) len md nm) := hD
      refine lv_aload_n hx hb dL_law_109 rfl (lv_at hl 2 rfl) ?_
      refine lv_aload_n hx hb dL_law_110 rfl (lv_at hl 0 rfl) ?_
      refine lv_iload_n hx hb dL_law_111 rfl (lv_at hl 3 rfl) ?_
      refine lv_iconst (v := nI 1) hx hb dL_law_112 (by first | decide | rfl) ?_
      refine lv_iadd hx hb dL_law_113 ?_
      refine fh_top (y := nI (i + 1)) (nI_add i 1) ?_
      refine fh_sld (k := (i + 1)) hx hb hX hbl hbA hS (by omega) (by omega) dL_law_114 ?_
      refine lv_aload_n hx hb dL_law_115 rfl (lv_at hl 0 rfl) ?_
      refine lv_iload_n hx hb dL_law_116 rfl (lv_at hl 3 rfl) ?_
      refine lv_iconst (v := nI 2) hx hb dL_law_117 (by first | decide | rfl) ?_
      refine lv_iadd hx hb dL_law_118 ?_
      refine fh_top (y := nI (i + 2)) (nI_add i 2) ?_
      refine fh_sld (k := (i + 2)) hx hb hX hbl hbA hS (by omega) (by omega) dL_law_119 ?_
      refine lv_aload_n hx hb dL_law_120 rfl (lv_at hl 0 rfl) ?_
      refine lv_iload_n hx hb dL_law_121 rfl (lv_at hl 3 rfl) ?_
      refine lv_iconst (v := nI 3) hx hb dL_law_122 (by first | decide | rfl) ?_
      refine lv_iadd hx hb dL_law_123 ?_
      refine fh_top (y := nI (i + 3)) (nI_add i 3) ?_
      refine fh_sld (k := (i + 3)) hx hb hX hbl hbA hS (by omega) (by omega) dL_law_124 ?_
      refine lv_aload_n hx hb dL_law_125 rfl (lv_at hl 0 rfl) ?_
      refine lv_iload_n hx hb dL_law_126 rfl (lv_at hl 3 rfl) ?_
      refine lv_iconst (v := nI 4) hx hb dL_law_127 (by first | decide | rfl) ?_
      refine lv_iadd hx hb dL_law_128 ?_
      refine fh_top (y := nI (i + 4)) (nI_add i 4) ?_
      refine fh_sld (k := (i + 4)) hx hb hX hbl hbA hS (by omega) (by omega) dL_law_129 ?_
      refine lv_aload_n hx hb dL_law_130 rfl (lv_at hl 0 rfl) ?_
      refine lv_iload_n hx hb dL_law_131 rfl (lv_at hl 3 rfl) ?_
      refine lv_iconst (v := nI 5) hx hb dL_law_132 (by first | decide | rfl) ?_
      refine lv_iadd hx hb dL_law_133 ?_
      refine fh_top (y := nI (i + 5)) (nI_add i 5) ?_
      refine fh_sld (k := (i + 5)) hx hb hX hbl hbA hS (by omega) (by omega) dL_law_134 ?_
      have hK0 := hK
      have hK : va_K (dC, dI) vwCl [(cJ, .int), (cB, .byte), (cZ, .boolean)] s := hK.sub [2, 3, 4] rfl
      have hPc := hP.sub (ws' := wM cJ cB cZ a U se id pr en be th bs wh (nI qm) len md nm) [13, 14, 15, 16, 17, 18, 19, 20, 21, 22] rfl
      have hDc := hD.sub (ws' := wM cJ cB cZ a U se id pr en be th bs wh (nI qm) len md nm) [13, 14, 15, 16, 17, 18, 19, 20, 21, 22] (by decide) rfl
      refine fh_ci (wr := wH cI cS h tr sl dw cw D C u1.1 (nI u1.2) wc nw ds wd) (w2 := fun u => wH cI cS h tr sl dw cw D C u1.1 (nI u1.2) wc nw ds wd ++ wM cJ cB cZ a u.1 se id pr en be th bs wh (nI u.2) len md nm) (va_runV (As := [.int (xs ((i + 1))), .int (xs ((i + 2))), .int (xs ((i + 3))), .int (xs ((i + 4))), .int (xs ((i + 5)))]) (rest := [.int r1]) ⟨hx, hb, hml, hown, hts⟩ (m_feed l dC dI cJ cB cZ a U se id pr en be th bs wh len md nm (xs (i + 1)) (xs (i + 2)) (xs (i + 3)) (xs (i + 4)) (xs (i + 5)) qm H.size (SM_qm hSM)) (cwV 5 hts gL_law_X2_feed rfl rfl rfl (by decide +kernel) ⟨Nat.le_of_ble_eq_true rfl, Nat.le_of_ble_eq_true rfl⟩) (pV_PW hK hPc hDc (ci := 2) (q0 := 0) rfl rfl) rfl rfl hl.1 rfl (lv_room (Nat.le_of_ble_eq_true rfl)) dL_law_135 ⟨Nat.le_of_ble_eq_true rfl, Nat.le_of_ble_eq_true rfl⟩) hP hD hS hA [13, 14, 15, 16, 17, 18, 19, 20, 21, 22] [0, 1, 2, 3, 4, 5, 6, 7, 8, 9, 10, 11, 12] [0, 1, 2, 3, 4, 5, 6, 7, 8, 9, 10, 11, 12, 13, 14, 15, 16, 17, 18, 19, 20, 21, 22] rfl rfl (by decide) (by decide) (by decide) (fun _ => rfl) (fun r2 u2 H locs hw hK hP hD hS => ?_)
      have hK := hK0
      have hst := st_feed hSM hw1 hw
      have hP : va_P (dC, dI) vwCl (wH cI cS h tr sl dw cw D C u1.1 (nI u1.2) wc nw ds wd ++ wM cJ cB cZ a u2.1 se id pr en be th bs wh (nI u2.2) len md nm) H := hP
      have hD : va_D A (wH cI cS h tr sl dw cw D C u1.1 (nI u1.2) wc nw ds wd ++ wM cJ cB cZ a u2.1 se id pr en be th bs wh (nI u2.2) len md nm) := hD
      refine lv_icmp_eq (tgt := 330) hx hb dL_law_138 (by decide) (fun c138 => ?_) (fun c138 => ?_)
      · skip
        refine lv_iinc (v := (nI (i + 6))) (lv' := [(3, .int (nI (i + 6))), (0, .ref b), (1, .ref h), (2, .ref (a 0))]) hx hb dL_law_330 hl (k := 3) rfl (nI_add i 6) (by decide) rfl (fun ls hl => ?_)
        refine lv_goto (tgt := 18) hx hb dL_law_333 (by decide) ?_
        exact ih (i + 6, u1.2, u1.1, dw, cw, D, C, wc, nw, ds, wd, u2.1, se, id, pr, en, be, th, bs, wh, u2.2, len, md, nm) _ _ _ ⟨by omega, hst.2, hP, hD, hS, lv_sub hl [1, 2, 3, 0] rfl⟩ (by show L + 6 - (i + 6) < L + 6 - i; omega)
      · skip
        exact absurd hst.1 c138
    · refine lv_tableIn (off := 110) (tgt := 143) hx hb dL_law_33 (by decide) (by decide) (by decide) (by decide) ?_
      refine lv_aload_n hx hb dL_law_143 rfl (lv_at hl 1 rfl) ?_
      refine lv_aload_n hx hb dL_law_144 rfl (lv_at hl 0 rfl) ?_
      refine lv_iload_n hx hb dL_law_145 rfl (lv_at hl 3 rfl) ?_
      refine lv_iconst (v := nI 1) hx hb dL_law_146 (by first | decide | rfl) ?_
      refine lv_iadd hx hb dL_law_147 ?_
      refine fh_top (y := nI (i + 1)) (nI_add i 1) ?_
      refine fh_sld (k := (i + 1)) hx hb hX hbl hbA hS (by omega) (by omega) dL_law_148 ?_
      have hK0 := hK
      have hK : va_K (dC, dI) vwCl [(cI, .int), (cS, tDg)] s := hK.sub [0, 1] rfl
      have hPc := hP.sub (ws' := wH cI cS h tr sl dw cw D C T (nI q) wc nw ds wd) [0, 1, 2, 3, 4, 5, 6, 7, 8, 9, 10, 11, 12] rfl
      have hDc := hD.sub (ws' := wH cI cS h tr sl dw cw D C T (nI q) wc nw ds wd) [0, 1, 2, 3, 4, 5, 6, 7, 8, 9, 10, 11, 12] (by decide) rfl
      refine fh_ci (wr := wM cJ cB cZ a U se id pr en be th bs wh (nI qm) len md nm) (w2 := fun u => wH cI cS h tr sl dw cw D C T (nI u) wc nw ds wd ++ wM cJ cB cZ a U se id pr en be th bs wh (nI qm) len md nm) (va_runV (As := [.int (xs ((i + 1)))]) (rest := []) ⟨hx, hb, hml, hown, hts⟩ (c_end l dC dI cI cS h tr sl dw cw D C T (nI q) wc nw ds wd (xs (i + 1)) q H.size (SM_q hSM)) (cwV 1 hts gL_law_X1_end rfl rfl rfl (by decide +kernel) ⟨Nat.le_of_ble_eq_true rfl, Nat.le_of_ble_eq_true rfl⟩) (pV_PW hK hPc hDc (ci := 1) (q0 := 0) rfl rfl) rfl rfl hl.1 rfl (lv_room (Nat.le_of_ble_eq_true rfl)) dL_law_149 ⟨Nat.le_of_ble_eq_true rfl, Nat.le_of_ble_eq_true rfl⟩) hP hD hS hA [0, 1, 2, 3, 4, 5, 6, 7, 8, 9, 10, 11, 12] [13, 14, 15, 16, 17, 18, 19, 20, 21, 22] [10, 11, 12, 13, 14, 15, 16, 17, 18, 19, 20, 21, 22, 0, 1, 2, 3, 4, 5, 6, 7, 8, 9] rfl rfl (by decide) (by decide) (by decide) (fun _ => rfl) (fun r1 u1 H locs hw hK hP hD hS => ?_)
      have hK := hK0
      have hw1 := hw
      have hP : va_P (dC, dI) vwCl (wH cI cS h tr sl dw cw D C T (nI u1) wc nw ds wd ++ wM cJ cB cZ a U se id pr en be th bs wh (nI qm) len md nm) H := hP
      have hD : va_D A (wH cI cS h tr sl dw cw D C T (nI u1) wc nw ds wd ++ wM cJ cB cZ a U se id pr en be th bs wh (nI qm) len md nm) := hD
      refine lv_aload_n hx hb dL_law_152 rfl (lv_at hl 2 rfl) ?_
      refine lv_aload_n hx hb dL_law_153 rfl (lv_at hl 0 rfl) ?_
      refine lv_iload_n hx hb dL_law_154 rfl (lv_at hl 3 rfl) ?_
      refine lv_iconst (v := nI 1) hx hb dL_law_155 (by first | decide | rfl) ?_
      refine lv_iadd hx hb dL_law_156 ?_
      refine fh_top (y := nI (i + 1)) (nI_add i 1) ?_
      refine fh_sld (k := (i + 1)) hx hb hX hbl hbA hS (by omega) (by omega) dL_law_157 ?_
      have hK0 := hK
      have hK : va_K (dC, dI) vwCl [(cJ, .int), (cB, .byte), (cZ, .boolean)] s := hK.sub [2, 3, 4] rfl
      have hPc := hP.sub (ws' := wM cJ cB cZ a U se id pr en be th bs wh (nI qm) len md nm) [13, 14, 15, 16, 17, 18, 19, 20, 21, 22] rfl
      have hDc := hD.sub (ws' := wM cJ cB cZ a U se id pr en be th bs wh (nI qm) len md nm) [13, 14, 15, 16, 17, 18, 19, 20, 21, 22] (by decide) rfl
      refine fh_ci (wr := wH cI cS h tr sl dw cw D C T (nI u1) wc nw ds wd) (w2 := fun u => wH cI cS h tr sl dw cw D C T (nI u1) wc nw ds wd ++ wM cJ cB cZ a U se id pr en be th bs wh (nI u) len md nm) (va_runV (As := [.int (xs ((i + 1)))]) (rest := [.int r1]) ⟨hx, hb, hml, hown, hts⟩ (m_end l dC dI cJ cB cZ a U se id pr en be th bs wh len md nm (xs (i + 1)) qm H.size (SM_qm hSM)) (cwV 1 hts gL_law_X2_end rfl rfl rfl (by decide +kernel) ⟨Nat.le_of_ble_eq_true rfl, Nat.le_of_ble_eq_true rfl⟩) (pV_PW hK hPc hDc (ci := 2) (q0 := 0) rfl rfl) rfl rfl hl.1 rfl (lv_room (Nat.le_of_ble_eq_true rfl)) dL_law_158 ⟨Nat.le_of_ble_eq_true rfl, Nat.le_of_ble_eq_true rfl⟩) hP hD hS hA [13, 14, 15, 16, 17, 18, 19, 20, 21, 22] [0, 1, 2, 3, 4, 5, 6, 7, 8, 9, 10, 11, 12] [0, 1, 2, 3, 4, 5, 6, 7, 8, 9, 10, 11, 12, 13, 14, 15, 16, 17, 18, 19, 20, 21, 22] rfl rfl (by decide) (by decide) (by decide) (fun _ => rfl) (fun r2 u2 H locs hw hK hP hD hS => ?_)
      have hK := hK0
      have hst := st_end hSM hw1 hw
      have hP : va_P (dC, dI) vwCl (wH cI cS h tr sl dw cw D C T (nI u1) wc nw ds wd ++ wM cJ cB cZ a U se id pr en be th bs wh (nI u2) len md nm) H := hP
      have hD : va_D A (wH cI cS h tr sl dw cw D C T (nI u1) wc nw ds wd ++ wM cJ cB cZ a U se id pr en be th bs wh (nI u2) len md nm) := hD
      refine lv_icmp_eq (tgt := 330) hx hb dL_law_161 (by decide) (fun c161 => ?_) (fun c161 => ?_)
      · skip
        refine lv_iinc (v := (nI (i + 6))) (lv' := [(3, .int (nI (i + 6))), (0, .ref b), (1, .ref h), (2, .ref (a 0))]) hx hb dL_law_330 hl (k := 3) rfl (nI_add i 6) (by decide) rfl (fun ls hl => ?_)
        refine lv_goto (tgt := 18) hx hb dL_law_333 (by decide) ?_
        exact ih (i + 6, u1, T, dw, cw, D, C, wc, nw, ds, wd, U, se, id, pr, en, be, th, bs, wh, u2, len, md, nm) _ _ _ ⟨by omega, hst.2, hP, hD, hS, lv_sub hl [1, 2, 3, 0] rfl⟩ (by show L + 6 - (i + 6) < L + 6 - i; omega)
      · skip
        exact absurd hst.1 c161
    · refine lv_tableIn (off := 133) (tgt := 166) hx hb dL_law_33 (by decide) (by decide) (by decide) (by decide) ?_
      refine lv_aload_n hx hb dL_law_166 rfl (lv_at hl 1 rfl) ?_
      refine lv_aload_n hx hb dL_law_167 rfl (lv_at hl 0 rfl) ?_
      refine lv_iload_n hx hb dL_law_168 rfl (lv_at hl 3 rfl) ?_
      refine lv_iconst (v := nI 1) hx hb dL_law_169 (by first | decide | rfl) ?_
      refine lv_iadd hx hb dL_law_170 ?_
      refine fh_top (y := nI (i + 1)) (nI_add i 1) ?_
      refine fh_sld (k := (i + 1)) hx hb hX hbl hbA hS (by omega) (by omega) dL_law_171 ?_
      refine lv_aload_n hx hb dL_law_172 rfl (lv_at hl 0 rfl) ?_
      refine lv_iload_n hx hb dL_law_173 rfl (lv_at hl 3 rfl) ?_
      refine lv_iconst (v := nI 2) hx hb dL_law_174 (by first | decide | rfl) ?_
      refine lv_iadd hx hb dL_law_175 ?_
      refine fh_top (y := nI (i + 2)) (nI_add i 2) ?_
      refine fh_sld (k := (i + 2)) hx hb hX hbl hbA hS (by omega) (by omega) dL_law_176 ?_
      refine lv_aload_n hx hb dL_law_177 rfl (lv_at hl 0 rfl) ?_
      refine lv_iload_n hx hb dL_law_178 rfl (lv_at hl 3 rfl) ?_
      refine lv_iconst (v := nI 3) hx hb dL_law_179 (by first | decide | rfl) ?_
      refine lv_iadd hx hb dL_law_180 ?_
      refine fh_top (y := nI (i + 3)) (nI_add i 3) ?_
      refine fh_sld (k := (i + 3)) hx hb hX hbl hbA hS (by omega) (by omega) dL_law_181 ?_
      refine lv_aload_n hx hb dL_law_182 rfl (lv_at hl 0 rfl) ?_
      refine lv_iload_n hx hb dL_law_183 rfl (lv_at hl 3 rfl) ?_
      refine lv_iconst (v := nI 4) hx hb dL_law_184 (by first | decide | rfl) ?_
      refine lv_iadd hx hb dL_law_185 ?_
      refine fh_top (y := nI (i + 4)) (nI_add i 4) ?_
      refine fh_sld (k := (i + 4)) hx hb hX hbl hbA hS (by omega) (by omega) dL_law_186 ?_
      refine lv_aload_n hx hb dL_law_187 rfl (lv_at hl 0 rfl) ?_
      refine lv_iload_n hx hb dL_law_188 rfl (lv_at hl 3 rfl) ?_
      refine lv_iconst (v := nI 5) hx hb dL_law_189 (by first | decide | rfl) ?_
      refine lv_iadd hx hb dL_law_190 ?_
      refine fh_top (y := nI (i + 5)) (nI_add i 5) ?_
      refine fh_sld (k := (i + 5)) hx hb hX hbl hbA hS (by omega) (by omega) dL_law_191 ?_
      refine lv_if_eq (tgt := 199) hx hb dL_law_192 (by decide) (fun c192 => ?_) (fun c192 => ?_)
      · skip
        refine lv_iconst (v := 0) hx hb dL_law_199 (by first | decide | rfl) ?_
        have hK0 := hK
        have hK : va_K (dC, dI) vwCl [(cI, .int), (cS, tDg)] s := hK.sub [0, 1] rfl
        have hPc := hP.sub (ws' := wH cI cS h tr sl dw cw D C T (nI q) wc nw ds wd) [0, 1, 2, 3, 4, 5, 6, 7, 8, 9, 10, 11, 12] rfl
        have hDc := hD.sub (ws' := wH cI cS h tr sl dw cw D C T (nI q) wc nw ds wd) [0, 1, 2, 3, 4, 5, 6, 7, 8, 9, 10, 11, 12] (by decide) rfl
        refine fh_ci (wr := wM cJ cB cZ a U se id pr en be th bs wh (nI qm) len md nm) (w2 := fun u => wH cI cS h tr sl u.2.2.2.1 u.2.2.2.2.1 u.2.1 u.2.2.1 T (nI u.1) u.2.2.2.2.2.1 nw u.2.2.2.2.2.2.1 u.2.2.2.2.2.2.2 ++ wM cJ cB cZ a U se id pr en be th bs wh (nI qm) len md nm) (va_runV (As := [.int (xs ((i + 1))), .int (xs ((i + 2))), .int (xs ((i + 3))), .int (xs ((i + 4))), .int 0]) (rest := []) ⟨hx, hb, hml, hown, hts⟩ (c_take l dC dI cI cS h tr sl dw cw D C T (nI q) wc nw ds wd (xs (i + 1)) (xs (i + 2)) (xs (i + 3)) (xs (i + 4)) 0 q H.size (SM_q hSM)) (cwV 5 hts gL_law_X1_take rfl rfl rfl (by decide +kernel) ⟨Nat.le_of_ble_eq_true rfl, Nat.le_of_ble_eq_true rfl⟩) (pV_PW hK hPc hDc (ci := 1) (q0 := 0) rfl rfl) rfl rfl hl.1 rfl (lv_room (Nat.le_of_ble_eq_true rfl)) dL_law_200 ⟨Nat.le_of_ble_eq_true rfl, Nat.le_of_ble_eq_true rfl⟩) hP hD hS hA [0, 1, 2, 3, 4, 5, 6, 7, 8, 9, 10, 11, 12] [13, 14, 15, 16, 17, 18, 19, 20, 21, 22] [10, 11, 12, 13, 14, 15, 16, 17, 18, 19, 20, 21, 22, 0, 1, 2, 3, 4, 5, 6, 7, 8, 9] rfl rfl (by decide) (by decide) (by decide) (fun _ => rfl) (fun r1 u1 H locs hw hK hP hD hS => ?_)
        have hK := hK0
        have hw1 := hw
        have hP : va_P (dC, dI) vwCl (wH cI cS h tr sl u1.2.2.2.1 u1.2.2.2.2.1 u1.2.1 u1.2.2.1 T (nI u1.1) u1.2.2.2.2.2.1 nw u1.2.2.2.2.2.2.1 u1.2.2.2.2.2.2.2 ++ wM cJ cB cZ a U se id pr en be th bs wh (nI qm) len md nm) H := hP
        have hD : va_D A (wH cI cS h tr sl u1.2.2.2.1 u1.2.2.2.2.1 u1.2.1 u1.2.2.1 T (nI u1.1) u1.2.2.2.2.2.1 nw u1.2.2.2.2.2.2.1 u1.2.2.2.2.2.2.2 ++ wM cJ cB cZ a U se id pr en be th bs wh (nI qm) len md nm) := hD
        refine lv_aload_n hx hb dL_law_203 rfl (lv_at hl 2 rfl) ?_
        refine lv_aload_n hx hb dL_law_204 rfl (lv_at hl 0 rfl) ?_
        refine lv_iload_n hx hb dL_law_205 rfl (lv_at hl 3 rfl) ?_
        refine lv_iconst (v := nI 1) hx hb dL_law_206 (by first | decide | rfl) ?_
        refine lv_iadd hx hb dL_law_207 ?_
        refine fh_top (y := nI (i + 1)) (nI_add i 1) ?_
        refine fh_sld (k := (i + 1)) hx hb hX hbl hbA hS (by omega) (by omega) dL_law_208 ?_
        refine lv_aload_n hx hb dL_law_209 rfl (lv_at hl 0 rfl) ?_
        refine lv_iload_n hx hb dL_law_210 rfl (lv_at hl 3 rfl) ?_
        refine lv_iconst (v := nI 2) hx hb dL_law_211 (by first | decide | rfl) ?_
        refine lv_iadd hx hb dL_law_212 ?_
        refine fh_top (y := nI (i + 2)) (nI_add i 2) ?_
        refine fh_sld (k := (i + 2)) hx hb hX hbl hbA hS (by omega) (by omega) dL_law_213 ?_
        refine lv_aload_n hx hb dL_law_214 rfl (lv_at hl 0 rfl) ?_
        refine lv_iload_n hx hb dL_law_215 rfl (lv_at hl 3 rfl) ?_
        refine lv_iconst (v := nI 3) hx hb dL_law_216 (by first | decide | rfl) ?_
        refine lv_iadd hx hb dL_law_217 ?_
        refine fh_top (y := nI (i + 3)) (nI_add i 3) ?_
        refine fh_sld (k := (i + 3)) hx hb hX hbl hbA hS (by omega) (by omega) dL_law_218 ?_
        refine lv_aload_n hx hb dL_law_219 rfl (lv_at hl 0 rfl) ?_
        refine lv_iload_n hx hb dL_law_220 rfl (lv_at hl 3 rfl) ?_
        refine lv_iconst (v := nI 4) hx hb dL_law_221 (by first | decide | rfl) ?_
        refine lv_iadd hx hb dL_law_222 ?_
        refine fh_top (y := nI (i + 4)) (nI_add i 4) ?_
        refine fh_sld (k := (i + 4)) hx hb hX hbl hbA hS (by omega) (by omega) dL_law_223 ?_
        refine lv_aload_n hx hb dL_law_224 rfl (lv_at hl 0 rfl) ?_
        refine lv_iload_n hx hb dL_law_225 rfl (lv_at hl 3 rfl) ?_
        refine lv_iconst (v := nI 5) hx hb dL_law_226 (by first | decide | rfl) ?_
        refine lv_iadd hx hb dL_law_227 ?_
        refine fh_top (y := nI (i + 5)) (nI_add i 5) ?_
        refine fh_sld (k := (i + 5)) hx hb hX hbl hbA hS (by omega) (by omega) dL_law_228 ?_
        refine lv_if_eq (tgt := 236) hx hb dL_law_229 (by decide) (fun c229 => ?_) (fun c229 => ?_)
        · skip
          refine lv_iconst (v := 0) hx hb dL_law_236 (by first | decide | rfl) ?_
          have hK0 := hK
          have hK : va_K (dC, dI) vwCl [(cJ, .int), (cB, .byte), (cZ, .boolean)] s := hK.sub [2, 3, 4] rfl
          have hPc := hP.sub (ws' := wM cJ cB cZ a U se id pr en be th bs wh (nI qm) len md nm) [13, 14, 15, 16, 17, 18, 19, 20, 21, 22] rfl
          have hDc := hD.sub (ws' := wM cJ cB cZ a U se id pr en be th bs wh (nI qm) len md nm) [13, 14, 15, 16, 17, 18, 19, 20, 21, 22] (by decide) rfl
          refine fh_ci (wr := wH cI cS h tr sl u1.2.2.2.1 u1.2.2.2.2.1 u1.2.1 u1.2.2.1 T (nI u1.1) u1.2.2.2.2.2.1 nw u1.2.2.2.2.2.2.1 u1.2.2.2.2.2.2.2) (w2 := fun u => wH cI cS h tr sl u1.2.2.2.1 u1.2.2.2.2.1 u1.2.1 u1.2.2.1 T (nI u1.1) u1.2.2.2.2.2.1 nw u1.2.2.2.2.2.2.1 u1.2.2.2.2.2.2.2 ++ wM cJ cB cZ a U u.2.1.1 u.2.1.2.1 u.2.1.2.2.1 u.2.1.2.2.2.1 u.2.1.2.2.2.2.1 u.2.1.2.2.2.2.2.1 u.2.1.2.2.2.2.2.2 u.2.2.1 (nI u.1) u.2.2.2.1 u.2.2.2.2 nm) (va_runV (As := [.int (xs ((i + 1))), .int (xs ((i + 2))), .int (xs ((i + 3))), .int (xs ((i + 4))), .int 0]) (rest := [.int r1]) ⟨hx, hb, hml, hown, hts⟩ (m_take l dC dI cJ cB cZ a U se id pr en be th bs wh len md nm (xs (i + 1)) (xs (i + 2)) (xs (i + 3)) (xs (i + 4)) 0 qm H.size (SM_qm hSM) (SM_en hSM)) (cwV 5 hts gL_law_X2_take rfl rfl rfl (by decide +kernel) ⟨Nat.le_of_ble_eq_true rfl, Nat.le_of_ble_eq_true rfl⟩) (pV_PW hK hPc hDc (ci := 2) (q0 := 0) rfl rfl) rfl rfl hl.1 rfl (lv_room (Nat.le_of_ble_eq_true rfl)) dL_law_237 ⟨Nat.le_of_ble_eq_true rfl, Nat.le_of_ble_eq_true rfl⟩) hP hD hS hA [13, 14, 15, 16, 17, 18, 19, 20, 21, 22] [0, 1, 2, 3, 4, 5, 6, 7, 8, 9, 10, 11, 12] [0, 1, 2, 3, 4, 5, 6, 7, 8, 9, 10, 11, 12, 13, 14, 15, 16, 17, 18, 19, 20, 21, 22] rfl rfl (by decide) (by decide) (by decide) (fun _ => rfl) (fun r2 u2 H locs hw hK hP hD hS => ?_)
          have hK := hK0
          have hst := st_take hSM hw1 hw
          have hP : va_P (dC, dI) vwCl (wH cI cS h tr sl u1.2.2.2.1 u1.2.2.2.2.1 u1.2.1 u1.2.2.1 T (nI u1.1) u1.2.2.2.2.2.1 nw u1.2.2.2.2.2.2.1 u1.2.2.2.2.2.2.2 ++ wM cJ cB cZ a U u2.2.1.1 u2.2.1.2.1 u2.2.1.2.2.1 u2.2.1.2.2.2.1 u2.2.1.2.2.2.2.1 u2.2.1.2.2.2.2.2.1 u2.2.1.2.2.2.2.2.2 u2.2.2.1 (nI u2.1) u2.2.2.2.1 u2.2.2.2.2 nm) H := hP
          have hD : va_D A (wH cI cS h tr sl u1.2.2.2.1 u1.2.2.2.2.1 u1.2.1 u1.2.2.1 T (nI u1.1) u1.2.2.2.2.2.1 nw u1.2.2.2.2.2.2.1 u1.2.2.2.2.2.2.2 ++ wM cJ cB cZ a U u2.2.1.1 u2.2.1.2.1 u2.2.1.2.2.1 u2.2.1.2.2.2.1 u2.2.1.2.2.2.2.1 u2.2.1.2.2.2.2.2.1 u2.2.1.2.2.2.2.2.2 u2.2.2.1 (nI u2.1) u2.2.2.2.1 u2.2.2.2.2 nm) := hD
          refine lv_icmp_eq (tgt := 330) hx hb dL_law_240 (by decide) (fun c240 => ?_) (fun c240 => ?_)
          · skip
            refine lv_iinc (v := (nI (i + 6))) (lv' := [(3, .int (nI (i + 6))), (0, .ref b), (1, .ref h), (2, .ref (a 0))]) hx hb dL_law_330 hl (k := 3) rfl (nI_add i 6) (by decide) rfl (fun ls hl => ?_)
            refine lv_goto (tgt := 18) hx hb dL_law_333 (by decide) ?_
            exact ih (i + 6, u1.1, T, u1.2.2.2.1, u1.2.2.2.2.1, u1.2.1, u1.2.2.1, u1.2.2.2.2.2.1, nw, u1.2.2.2.2.2.2.1, u1.2.2.2.2.2.2.2, U, u2.2.1.1, u2.2.1.2.1, u2.2.1.2.2.1, u2.2.1.2.2.2.1, u2.2.1.2.2.2.2.1, u2.2.1.2.2.2.2.2.1, u2.2.1.2.2.2.2.2.2, u2.2.2.1, u2.1, u2.2.2.2.1, u2.2.2.2.2, nm) _ _ _ ⟨by omega, hst.2, hP, hD, hS, lv_sub hl [1, 2, 3, 0] rfl⟩ (by show L + 6 - (i + 6) < L + 6 - i; omega)
          · skip
            exact absurd hst.1 c240
        · skip
          exact absurd c192 c229
      · skip
        refine lv_iconst (v := 1) hx hb dL_law_195 (by first | decide | rfl) ?_
        refine lv_goto (tgt := 200) hx hb dL_law_196 (by decide) ?_
        have hK0 := hK
        have hK : va_K (dC, dI) vwCl [(cI, .int), (cS, tDg)] s := hK.sub [0, 1] rfl
        have hPc := hP.sub (ws' := wH cI cS h tr sl dw cw D C T (nI q) wc nw ds wd) [0, 1, 2, 3, 4, 5, 6, 7, 8, 9, 10, 11, 12] rfl
        have hDc := hD.sub (ws' := wH cI cS h tr sl dw cw D C T (nI q) wc nw ds wd) [0, 1, 2, 3, 4, 5, 6, 7, 8, 9, 10, 11, 12] (by decide) rfl
        refine fh_ci (wr := wM cJ cB cZ a U se id pr en be th bs wh (nI qm) len md nm) (w2 := fun u => wH cI cS h tr sl u.2.2.2.1 u.2.2.2.2.1 u.2.1 u.2.2.1 T (nI u.1) u.2.2.2.2.2.1 nw u.2.2.2.2.2.2.1 u.2.2.2.2.2.2.2 ++ wM cJ cB cZ a U se id pr en be th bs wh (nI qm) len md nm) (va_runV (As := [.int (xs ((i + 1))), .int (xs ((i + 2))), .int (xs ((i + 3))), .int (xs ((i + 4))), .int 1]) (rest := []) ⟨hx, hb, hml, hown, hts⟩ (c_take l dC dI cI cS h tr sl dw cw D C T (nI q) wc nw ds wd (xs (i + 1)) (xs (i + 2)) (xs (i + 3)) (xs (i + 4)) 1 q H.size (SM_q hSM)) (cwV 5 hts gL_law_X1_take rfl rfl rfl (by decide +kernel) ⟨Nat.le_of_ble_eq_true rfl, Nat.le_of_ble_eq_true rfl⟩) (pV_PW hK hPc hDc (ci := 1) (q0 := 0) rfl rfl) rfl rfl hl.1 rfl (lv_room (Nat.le_of_ble_eq_true rfl)) dL_law_200 ⟨Nat.le_of_ble_eq_true rfl, Nat.le_of_ble_eq_true rfl⟩) hP hD hS hA [0, 1, 2, 3, 4, 5, 6, 7, 8, 9, 10, 11, 12] [13, 14, 15, 16, 17, 18, 19, 20, 21, 22] [10, 11, 12, 13, 14, 15, 16, 17, 18, 19, 20, 21, 22, 0, 1, 2, 3, 4, 5, 6, 7, 8, 9] rfl rfl (by decide) (by decide) (by decide) (fun _ => rfl) (fun r1 u1 H locs hw hK hP hD hS => ?_)
        have hK := hK0
        have hw1 := hw
        have hP : va_P (dC, dI) vwCl (wH cI cS h tr sl u1.2.2.2.1 u1.2.2.2.2.1 u1.2.1 u1.2.2.1 T (nI u1.1) u1.2.2.2.2.2.1 nw u1.2.2.2.2.2.2.1 u1.2.2.2.2.2.2.2 ++ wM cJ cB cZ a U se id pr en be th bs wh (nI qm) len md nm) H := hP
        have hD : va_D A (wH cI cS h tr sl u1.2.2.2.1 u1.2.2.2.2.1 u1.2.1 u1.2.2.1 T (nI u1.1) u1.2.2.2.2.2.1 nw u1.2.2.2.2.2.2.1 u1.2.2.2.2.2.2.2 ++ wM cJ cB cZ a U se id pr en be th bs wh (nI qm) len md nm) := hD
        refine lv_aload_n hx hb dL_law_203 rfl (lv_at hl 2 rfl) ?_
        refine lv_aload_n hx hb dL_law_204 rfl (lv_at hl 0 rfl) ?_
        refine lv_iload_n hx hb dL_law_205 rfl (lv_at hl 3 rfl) ?_
        refine lv_iconst (v := nI 1) hx hb dL_law_206 (by first | decide | rfl) ?_
        refine lv_iadd hx hb dL_law_207 ?_
        refine fh_top (y := nI (i + 1)) (nI_add i 1) ?_
        refine fh_sld (k := (i + 1)) hx hb hX hbl hbA hS (by omega) (by omega) dL_law_208 ?_
        refine lv_aload_n hx hb dL_law_209 rfl (lv_at hl 0 rfl) ?_
        refine lv_iload_n hx hb dL_law_210 rfl (lv_at hl 3 rfl) ?_
        refine lv_iconst (v := nI 2) hx hb dL_law_211 (by first | decide | rfl) ?_
        refine lv_iadd hx hb dL_law_212 ?_
        refine fh_top (y := nI (i + 2)) (nI_add i 2) ?_
        refine fh_sld (k := (i + 2)) hx hb hX hbl hbA hS (by omega) (by omega) dL_law_213 ?_
        refine lv_aload_n hx hb dL_law_214 rfl (lv_at hl 0 rfl) ?_
        refine lv_iload_n hx hb dL_law_215 rfl (lv_at hl 3 rfl) ?_
        refine lv_iconst (v := nI 3) hx hb dL_law_216 (by first | decide | rfl) ?_
        refine lv_iadd hx hb dL_law_217 ?_
        refine fh_top (y := nI (i + 3)) (nI_add i 3) ?_
        refine fh_sld (k := (i + 3)) hx hb hX hbl hbA hS (by omega) (by omega) dL_law_218 ?_
        refine lv_aload_n hx hb dL_law_219 rfl (lv_at hl 0 rfl) ?_
        refine lv_iload_n hx hb dL_law_220 rfl (lv_at hl 3 rfl) ?_
        refine lv_iconst (v := nI 4) hx hb dL_law_221 (by first | decide | rfl) ?_
        refine lv_iadd hx hb dL_law_222 ?_
        refine fh_top (y := nI (i + 4)) (nI_add i 4) ?_
        refine fh_sld (k := (i + 4)) hx hb hX hbl hbA hS (by omega) (by omega) dL_law_223 ?_
        refine lv_aload_n hx hb dL_law_224 rfl (lv_at hl 0 rfl) ?_
        refine lv_iload_n hx hb dL_law_225 rfl (lv_at hl 3 rfl) ?_
        refine lv_iconst (v := nI 5) hx hb dL_law_226 (by first | decide | rfl) ?_
        refine lv_iadd hx hb dL_law_227 ?_
        refine fh_top (y := nI (i + 5)) (nI_add i 5) ?_
        refine fh_sld (k := (i + 5)) hx hb hX hbl hbA hS (by omega) (by omega) dL_law_228 ?_
        refine lv_if_eq (tgt := 236) hx hb dL_law_229 (by decide) (fun c229 => ?_) (fun c229 => ?_)
        · skip
          exact absurd c229 c192
        · skip
          refine lv_iconst (v := 1) hx hb dL_law_232 (by first | decide | rfl) ?_
          refine lv_goto (tgt := 237) hx hb dL_law_233 (by decide) ?_
          have hK0 := hK
          have hK : va_K (dC, dI) vwCl [(cJ, .int), (cB, .byte), (cZ, .boolean)] s := hK.sub [2, 3, 4] rfl
          have hPc := hP.sub (ws' := wM cJ cB cZ a U se id pr en be th bs wh (nI qm) len md nm) [13, 14, 15, 16, 17, 18, 19, 20, 21, 22] rfl
          have hDc := hD.sub (ws' := wM cJ cB cZ a U se id pr en be th bs wh (nI qm) len md nm) [13, 14, 15, 16, 17, 18, 19, 20, 21, 22] (by decide) rfl
          refine fh_ci (wr := wH cI cS h tr sl u1.2.2.2.1 u1.2.2.2.2.1 u1.2.1 u1.2.2.1 T (nI u1.1) u1.2.2.2.2.2.1 nw u1.2.2.2.2.2.2.1 u1.2.2.2.2.2.2.2) (w2 := fun u => wH cI cS h tr sl u1.2.2.2.1 u1.2.2.2.2.1 u1.2.1 u1.2.2.1 T (nI u1.1) u1.2.2.2.2.2.1 nw u1.2.2.2.2.2.2.1 u1.2.2.2.2.2.2.2 ++ wM cJ cB cZ a U u.2.1.1 u.2.1.2.1 u.2.1.2.2.1 u.2.1.2.2.2.1 u.2.1.2.2.2.2.1 u.2.1.2.2.2.2.2.1 u.2.1.2.2.2.2.2.2 u.2.2.1 (nI u.1) u.2.2.2.1 u.2.2.2.2 nm) (va_runV (As := [.int (xs ((i + 1))), .int (xs ((i + 2))), .int (xs ((i + 3))), .int (xs ((i + 4))), .int 1]) (rest := [.int r1]) ⟨hx, hb, hml, hown, hts⟩ (m_take l dC dI cJ cB cZ a U se id pr en be th bs wh len md nm (xs (i + 1)) (xs (i + 2)) (xs (i + 3)) (xs (i + 4)) 1 qm H.size (SM_qm hSM) (SM_en hSM)) (cwV 5 hts gL_law_X2_take rfl rfl rfl (by decide +kernel) ⟨Nat.le_of_ble_eq_true rfl, Nat.le_of_ble_eq_true rfl⟩) (pV_PW hK hPc hDc (ci := 2) (q0 := 0) rfl rfl) rfl rfl hl.1 rfl (lv_room (Nat.le_of_ble_eq_true rfl)) dL_law_237 ⟨Nat.le_of_ble_eq_true rfl, Nat.le_of_ble_eq_true rfl⟩) hP hD hS hA [13, 14, 15, 16, 17, 18, 19, 20, 21, 22] [0, 1, 2, 3, 4, 5, 6, 7, 8, 9, 10, 11, 12] [0, 1, 2, 3, 4, 5, 6, 7, 8, 9, 10, 11, 12, 13, 14, 15, 16, 17, 18, 19, 20, 21, 22] rfl rfl (by decide) (by decide) (by decide) (fun _ => rfl) (fun r2 u2 H locs hw hK hP hD hS => ?_)
          have hK := hK0
          have hst := st_take hSM hw1 hw
          have hP : va_P (dC, dI) vwCl (wH cI cS h tr sl u1.2.2.2.1 u1.2.2.2.2.1 u1.2.1 u1.2.2.1 T (nI u1.1) u1.2.2.2.2.2.1 nw u1.2.2.2.2.2.2.1 u1.2.2.2.2.2.2.2 ++ wM cJ cB cZ a U u2.2.1.1 u2.2.1.2.1 u2.2.1.2.2.1 u2.2.1.2.2.2.1 u2.2.1.2.2.2.2.1 u2.2.1.2.2.2.2.2.1 u2.2.1.2.2.2.2.2.2 u2.2.2.1 (nI u2.1) u2.2.2.2.1 u2.2.2.2.2 nm) H := hP
          have hD : va_D A (wH cI cS h tr sl u1.2.2.2.1 u1.2.2.2.2.1 u1.2.1 u1.2.2.1 T (nI u1.1) u1.2.2.2.2.2.1 nw u1.2.2.2.2.2.2.1 u1.2.2.2.2.2.2.2 ++ wM cJ cB cZ a U u2.2.1.1 u2.2.1.2.1 u2.2.1.2.2.1 u2.2.1.2.2.2.1 u2.2.1.2.2.2.2.1 u2.2.1.2.2.2.2.2.1 u2.2.1.2.2.2.2.2.2 u2.2.2.1 (nI u2.1) u2.2.2.2.1 u2.2.2.2.2 nm) := hD
          refine lv_icmp_eq (tgt := 330) hx hb dL_law_240 (by decide) (fun c240 => ?_) (fun c240 => ?_)
          · skip
            refine lv_iinc (v := (nI (i + 6))) (lv' := [(3, .int (nI (i + 6))), (0, .ref b), (1, .ref h), (2, .ref (a 0))]) hx hb dL_law_330 hl (k := 3) rfl (nI_add i 6) (by decide) rfl (fun ls hl => ?_)
            refine lv_goto (tgt := 18) hx hb dL_law_333 (by decide) ?_
            exact ih (i + 6, u1.1, T, u1.2.2.2.1, u1.2.2.2.2.1, u1.2.1, u1.2.2.1, u1.2.2.2.2.2.1, nw, u1.2.2.2.2.2.2.1, u1.2.2.2.2.2.2.2, U, u2.2.1.1, u2.2.1.2.1, u2.2.1.2.2.1, u2.2.1.2.2.2.1, u2.2.1.2.2.2.2.1, u2.2.1.2.2.2.2.2.1, u2.2.1.2.2.2.2.2.2, u2.2.2.1, u2.1, u2.2.2.2.1, u2.2.2.2.2, nm) _ _ _ ⟨by omega, hst.2, hP, hD, hS, lv_sub hl [1, 2, 3, 0] rfl⟩ (by show L + 6 - (i + 6) < L + 6 - i; omega)
          · skip
            exact absurd hst.1 c240
    · refine lv_tableIn (off := 212) (tgt := 245) hx hb dL_law_33 (by decide) (by decide) (by decide) (by decide) ?_
      refine lv_aload_n hx hb dL_law_245 rfl (lv_at hl 1 rfl) ?_
      refine lv_aload_n hx hb dL_law_246 rfl (lv_at hl 0 rfl) ?_
      refine lv_iload_n hx hb dL_law_247 rfl (lv_at hl 3 rfl) ?_
      refine lv_iconst (v := nI 1) hx hb dL_law_248 (by first | decide | rfl) ?_
      refine lv_iadd hx hb dL_law_249 ?_
      refine fh_top (y := nI (i + 1)) (nI_add i 1) ?_
      refine fh_sld (k := (i + 1)) hx hb hX hbl hbA hS (by omega) (by omega) dL_law_250 ?_
      have hK0 := hK
      have hK : va_K (dC, dI) vwCl [(cI, .int), (cS, tDg)] s := hK.sub [0, 1] rfl
      have hPc := hP.sub (ws' := wH cI cS h tr sl dw cw D C T (nI q) wc nw ds wd) [0, 1, 2, 3, 4, 5, 6, 7, 8, 9, 10, 11, 12] rfl
      have hDc := hD.sub (ws' := wH cI cS h tr sl dw cw D C T (nI q) wc nw ds wd) [0, 1, 2, 3, 4, 5, 6, 7, 8, 9, 10, 11, 12] (by decide) rfl
      refine fh_ci (wr := wM cJ cB cZ a U se id pr en be th bs wh (nI qm) len md nm) (w2 := fun u => wH cI cS h tr sl dw cw D C T (nI q) wc u.2 u.1 wd ++ wM cJ cB cZ a U se id pr en be th bs wh (nI qm) len md nm) (va_runV (As := [.int (xs ((i + 1)))]) (rest := []) ⟨hx, hb, hml, hown, hts⟩ (c_pass l dC dI cI cS h tr sl dw cw D C T (nI q) wc nw ds wd (xs (i + 1)) H.size) (cwV 1 hts gL_law_X1_pass rfl rfl rfl (by decide +kernel) ⟨Nat.le_of_ble_eq_true rfl, Nat.le_of_ble_eq_true rfl⟩) (pV_PW hK hPc hDc (ci := 1) (q0 := 0) rfl rfl) rfl rfl hl.1 rfl (lv_room (Nat.le_of_ble_eq_true rfl)) dL_law_251 ⟨Nat.le_of_ble_eq_true rfl, Nat.le_of_ble_eq_true rfl⟩) hP hD hS hA [0, 1, 2, 3, 4, 5, 6, 7, 8, 9, 10, 11, 12] [13, 14, 15, 16, 17, 18, 19, 20, 21, 22] [10, 11, 12, 13, 14, 15, 16, 17, 18, 19, 20, 21, 22, 0, 1, 2, 3, 4, 5, 6, 7, 8, 9] rfl rfl (by decide) (by decide) (by decide) (fun _ => rfl) (fun r1 u1 H locs hw hK hP hD hS => ?_)
      have hK := hK0
      have hw1 := hw
      have hP : va_P (dC, dI) vwCl (wH cI cS h tr sl dw cw D C T (nI q) wc u1.2 u1.1 wd ++ wM cJ cB cZ a U se id pr en be th bs wh (nI qm) len md nm) H := hP
      have hD : va_D A (wH cI cS h tr sl dw cw D C T (nI q) wc u1.2 u1.1 wd ++ wM cJ cB cZ a U se id pr en be th bs wh (nI qm) len md nm) := hD
      refine lv_aload_n hx hb dL_law_254 rfl (lv_at hl 2 rfl) ?_
      refine lv_aload_n hx hb dL_law_255 rfl (lv_at hl 0 rfl) ?_
      refine lv_iload_n hx hb dL_law_256 rfl (lv_at hl 3 rfl) ?_
      refine lv_iconst (v := nI 1) hx hb dL_law_257 (by first | decide | rfl) ?_
      refine lv_iadd hx hb dL_law_258 ?_
      refine fh_top (y := nI (i + 1)) (nI_add i 1) ?_
      refine fh_sld (k := (i + 1)) hx hb hX hbl hbA hS (by omega) (by omega) dL_law_259 ?_
      have hK0 := hK
      have hK : va_K (dC, dI) vwCl [(cJ, .int), (cB, .byte), (cZ, .boolean)] s := hK.sub [2, 3, 4] rfl
      have hPc := hP.sub (ws' := wM cJ cB cZ a U se id pr en be th bs wh (nI qm) len md nm) [13, 14, 15, 16, 17, 18, 19, 20, 21, 22] rfl
      have hDc := hD.sub (ws' := wM cJ cB cZ a U se id pr en be th bs wh (nI qm) len md nm) [13, 14, 15, 16, 17, 18, 19, 20, 21, 22] (by decide) rfl
      refine fh_ci (wr := wH cI cS h tr sl dw cw D C T (nI q) wc u1.2 u1.1 wd) (w2 := fun u => wH cI cS h tr sl dw cw D C T (nI q) wc u1.2 u1.1 wd ++ wM cJ cB cZ a U se id pr en be u.1 bs wh (nI qm) len md u.2) (va_runV (As := [.int (xs ((i + 1)))]) (rest := [.int r1]) ⟨hx, hb, hml, hown, hts⟩ (m_pass l dC dI cJ cB cZ a U se id pr en be th bs wh (nI qm) len md nm (xs (i + 1)) H.size) (cwV 1 hts gL_law_X2_pass rfl rfl rfl (by decide +kernel) ⟨Nat.le_of_ble_eq_true rfl, Nat.le_of_ble_eq_true rfl⟩) (pV_PW hK hPc hDc (ci := 2) (q0 := 0) rfl rfl) rfl rfl hl.1 rfl (lv_room (Nat.le_of_ble_eq_true rfl)) dL_law_260 ⟨Nat.le_of_ble_eq_true rfl, Nat.le_of_ble_eq_true rfl⟩) hP hD hS hA [13, 14, 15, 16, 17, 18, 19, 20, 21, 22] [0, 1, 2, 3, 4, 5, 6, 7, 8, 9, 10, 11, 12] [0, 1, 2, 3, 4, 5, 6, 7, 8, 9, 10, 11, 12, 13, 14, 15, 16, 17, 18, 19, 20, 21, 22] rfl rfl (by decide) (by decide) (by decide) (fun _ => rfl) (fun r2 u2 H locs hw hK hP hD hS => ?_)
      have hK := hK0
      have hst := st_pass hSM hw1 hw
      have hP : va_P (dC, dI) vwCl (wH cI cS h tr sl dw cw D C T (nI q) wc u1.2 u1.1 wd ++ wM cJ cB cZ a U se id pr en be u2.1 bs wh (nI qm) len md u2.2) H := hP
      have hD : va_D A (wH cI cS h tr sl dw cw D C T (nI q) wc u1.2 u1.1 wd ++ wM cJ cB cZ a U se id pr en be u2.1 bs wh (nI qm) len md u2.2) := hD
      refine lv_icmp_eq (tgt := 330) hx hb dL_law_263 (by decide) (fun c263 => ?_) (fun c263 => ?_)
      · skip
        refine lv_iinc (v := (nI (i + 6))) (lv' := [(3, .int (nI (i + 6))), (0, .ref b), (1, .ref h), (2, .ref (a 0))]) hx hb dL_law_330 hl (k := 3) rfl (nI_add i 6) (by decide) rfl (fun ls hl => ?_)
        refine lv_goto (tgt := 18) hx hb dL_law_333 (by decide) ?_
        exact ih (i + 6, q, T, dw, cw, D, C, wc, u1.2, u1.1, wd, U, se, id, pr, en, be, u2.1, bs, wh, qm, len, md, u2.2) _ _ _ ⟨by omega, hst.2, hP, hD, hS, lv_sub hl [1, 2, 3, 0] rfl⟩ (by show L + 6 - (i + 6) < L + 6 - i; omega)
      · skip
        exact absurd hst.1 c263
    · refine lv_tableIn (off := 235) (tgt := 268) hx hb dL_law_33 (by decide) (by decide) (by decide) (by decide) ?_
      refine lv_aload_n hx hb dL_law_268 rfl (lv_at hl 1 rfl) ?_
      have hK0 := hK
      have hK : va_K (dC, dI) vwCl [(cI, .int), (cS, tDg)] s := hK.sub [0, 1] rfl
      have hPc := hP.sub (ws' := wH cI cS h tr sl dw cw D C T (nI q) wc nw ds wd) [0, 1, 2, 3, 4, 5, 6, 7, 8, 9, 10, 11, 12] rfl
      have hDc := hD.sub (ws' := wH cI cS h tr sl dw cw D C T (nI q) wc nw ds wd) [0, 1, 2, 3, 4, 5, 6, 7, 8, 9, 10, 11, 12] (by decide) rfl
      refine fh_ci (wr := wM cJ cB cZ a U se id pr en be th bs wh (nI qm) len md nm) (w2 := fun u => wH cI cS h tr sl dw cw D C T (nI q) wc nw ds wd ++ wM cJ cB cZ a U se id pr en be th bs wh (nI qm) len md nm) (va_runV (As := []) (rest := []) ⟨hx, hb, hml, hown, hts⟩ (c_making l dC dI cI cS h tr sl dw cw D C T (nI q) wc nw ds wd H.size) (cwV 0 hts gL_law_X1_making rfl rfl rfl (by decide +kernel) ⟨Nat.le_of_ble_eq_true rfl, Nat.le_of_ble_eq_true rfl⟩) (pV_PW hK hPc hDc (ci := 1) (q0 := 0) rfl rfl) rfl rfl hl.1 rfl (lv_room (Nat.le_of_ble_eq_true rfl)) dL_law_269 ⟨Nat.le_of_ble_eq_true rfl, Nat.le_of_ble_eq_true rfl⟩) hP hD hS hA [0, 1, 2, 3, 4, 5, 6, 7, 8, 9, 10, 11, 12] [13, 14, 15, 16, 17, 18, 19, 20, 21, 22] [10, 11, 12, 13, 14, 15, 16, 17, 18, 19, 20, 21, 22, 0, 1, 2, 3, 4, 5, 6, 7, 8, 9] rfl rfl (by decide) (by decide) (by decide) (fun _ => rfl) (fun r1 u1 H locs hw hK hP hD hS => ?_)
      have hK := hK0
      have hw1 := hw
      have hP : va_P (dC, dI) vwCl (wH cI cS h tr sl dw cw D C T (nI q) wc nw ds wd ++ wM cJ cB cZ a U se id pr en be th bs wh (nI qm) len md nm) H := hP
      have hD : va_D A (wH cI cS h tr sl dw cw D C T (nI q) wc nw ds wd ++ wM cJ cB cZ a U se id pr en be th bs wh (nI qm) len md nm) := hD
      refine lv_aload_n hx hb dL_law_272 rfl (lv_at hl 2 rfl) ?_
      have hK0 := hK
      have hK : va_K (dC, dI) vwCl [(cJ, .int), (cB, .byte), (cZ, .boolean)] s := hK.sub [2, 3, 4] rfl
      have hPc := hP.sub (ws' := wM cJ cB cZ a U se id pr en be th bs wh (nI qm) len md nm) [13, 14, 15, 16, 17, 18, 19, 20, 21, 22] rfl
      have hDc := hD.sub (ws' := wM cJ cB cZ a U se id pr en be th bs wh (nI qm) len md nm) [13, 14, 15, 16, 17, 18, 19, 20, 21, 22] (by decide) rfl
      refine fh_ci (wr := wH cI cS h tr sl dw cw D C T (nI q) wc nw ds wd) (w2 := fun u => wH cI cS h tr sl dw cw D C T (nI q) wc nw ds wd ++ wM cJ cB cZ a U se id pr en be th bs wh (nI qm) len md nm) (va_runV (As := []) (rest := [.int r1]) ⟨hx, hb, hml, hown, hts⟩ (m_making l dC dI cJ cB cZ a U se id pr en be th bs wh (nI qm) len md nm H.size) (cwV 0 hts gL_law_X2_making rfl rfl rfl (by decide +kernel) ⟨Nat.le_of_ble_eq_true rfl, Nat.le_of_ble_eq_true rfl⟩) (pV_PW hK hPc hDc (ci := 2) (q0 := 0) rfl rfl) rfl rfl hl.1 rfl (lv_room (Nat.le_of_ble_eq_true rfl)) dL_law_273 ⟨Nat.le_of_ble_eq_true rfl, Nat.le_of_ble_eq_true rfl⟩) hP hD hS hA [13, 14, 15, 16, 17, 18, 19, 20, 21, 22] [0, 1, 2, 3, 4, 5, 6, 7, 8, 9, 10, 11, 12] [0, 1, 2, 3, 4, 5, 6, 7, 8, 9, 10, 11, 12, 13, 14, 15, 16, 17, 18, 19, 20, 21, 22] rfl rfl (by decide) (by decide) (by decide) (fun _ => rfl) (fun r2 u2 H locs hw hK hP hD hS => ?_)
      have hK := hK0
      have hst : r1 = r2 ∧ True := ⟨by rw [hw1, hw, sl_making hSM.2.2.2.2.2.2.2], trivial⟩
      have hP : va_P (dC, dI) vwCl (wH cI cS h tr sl dw cw D C T (nI q) wc nw ds wd ++ wM cJ cB cZ a U se id pr en be th bs wh (nI qm) len md nm) H := hP
      have hD : va_D A (wH cI cS h tr sl dw cw D C T (nI q) wc nw ds wd ++ wM cJ cB cZ a U se id pr en be th bs wh (nI qm) len md nm) := hD
      refine lv_icmp_eq (tgt := 330) hx hb dL_law_276 (by decide) (fun c276 => ?_) (fun c276 => ?_)
      · skip
        refine lv_iinc (v := (nI (i + 6))) (lv' := [(3, .int (nI (i + 6))), (0, .ref b), (1, .ref h), (2, .ref (a 0))]) hx hb dL_law_330 hl (k := 3) rfl (nI_add i 6) (by decide) rfl (fun ls hl => ?_)
        refine lv_goto (tgt := 18) hx hb dL_law_333 (by decide) ?_
        exact ih (i + 6, q, T, dw, cw, D, C, wc, nw, ds, wd, U, se, id, pr, en, be, th, bs, wh, qm, len, md, nm) _ _ _ ⟨by omega, hSM, hP, hD, hS, lv_sub hl [1, 2, 3, 0] rfl⟩ (by show L + 6 - (i + 6) < L + 6 - i; omega)
      · skip
        exact absurd hst.1 c276
    · refine lv_tableIn (off := 248) (tgt := 281) hx hb dL_law_33 (by decide) (by decide) (by decide) (by decide) ?_
      refine lv_aload_n hx hb dL_law_281 rfl (lv_at hl 1 rfl) ?_
      have hK0 := hK
      have hK : va_K (dC, dI) vwCl [(cI, .int), (cS, tDg)] s := hK.sub [0, 1] rfl
      have hPc := hP.sub (ws' := wH cI cS h tr sl dw cw D C T (nI q) wc nw ds wd) [0, 1, 2, 3, 4, 5, 6, 7, 8, 9, 10, 11, 12] rfl
      have hDc := hD.sub (ws' := wH cI cS h tr sl dw cw D C T (nI q) wc nw ds wd) [0, 1, 2, 3, 4, 5, 6, 7, 8, 9, 10, 11, 12] (by decide) rfl
      refine fh_ci (wr := wM cJ cB cZ a U se id pr en be th bs wh (nI qm) len md nm) (w2 := fun u => wH cI cS h tr sl dw cw D C T (nI q) wc nw ds wd ++ wM cJ cB cZ a U se id pr en be th bs wh (nI qm) len md nm) (va_runV (As := []) (rest := []) ⟨hx, hb, hml, hown, hts⟩ (c_made l dC dI cI cS h tr sl dw cw D C T (nI q) wc nw ds wd H.size) (cwV 0 hts gL_law_X1_made rfl rfl rfl (by decide +kernel) ⟨Nat.le_of_ble_eq_true rfl, Nat.le_of_ble_eq_true rfl⟩) (pV_PW hK hPc hDc (ci := 1) (q0 := 0) rfl rfl) rfl rfl hl.1 rfl (lv_room (Nat.le_of_ble_eq_true rfl)) dL_law_282 ⟨Nat.le_of_ble_eq_true rfl, Nat.le_of_ble_eq_true rfl⟩) hP hD hS hA [0, 1, 2, 3, 4, 5, 6, 7, 8, 9, 10, 11, 12] [13, 14, 15, 16, 17, 18, 19, 20, 21, 22] [10, 11, 12, 13, 14, 15, 16, 17, 18, 19, 20, 21, 22, 0, 1, 2, 3, 4, 5, 6, 7, 8, 9] rfl rfl (by decide) (by decide) (by decide) (fun _ => rfl) (fun r1 u1 H locs hw hK hP hD hS => ?_)
      have hK := hK0
      have hw1 := hw
      have hP : va_P (dC, dI) vwCl (wH cI cS h tr sl dw cw D C T (nI q) wc nw ds wd ++ wM cJ cB cZ a U se id pr en be th bs wh (nI qm) len md nm) H := hP
      have hD : va_D A (wH cI cS h tr sl dw cw D C T (nI q) wc nw ds wd ++ wM cJ cB cZ a U se id pr en be th bs wh (nI qm) len md nm) := hD
      refine lv_aload_n hx hb dL_law_285 rfl (lv_at hl 2 rfl) ?_
      have hK0 := hK
      have hK : va_K (dC, dI) vwCl [(cJ, .int), (cB, .byte), (cZ, .boolean)] s := hK.sub [2, 3, 4] rfl
      have hPc := hP.sub (ws' := wM cJ cB cZ a U se id pr en be th bs wh (nI qm) len md nm) [13, 14, 15, 16, 17, 18, 19, 20, 21, 22] rfl
      have hDc := hD.sub (ws' := wM cJ cB cZ a U se id pr en be th bs wh (nI qm) len md nm) [13, 14, 15, 16, 17, 18, 19, 20, 21, 22] (by decide) rfl
      refine fh_ci (wr := wH cI cS h tr sl dw cw D C T (nI q) wc nw ds wd) (w2 := fun u => wH cI cS h tr sl dw cw D C T (nI q) wc nw ds wd ++ wM cJ cB cZ a U se id pr en be th bs wh (nI qm) len md nm) (va_runV (As := []) (rest := [.int r1]) ⟨hx, hb, hml, hown, hts⟩ (m_made l dC dI cJ cB cZ a U se id pr en be th bs wh (nI qm) len md nm H.size) (cwV 0 hts gL_law_X2_made rfl rfl rfl (by decide +kernel) ⟨Nat.le_of_ble_eq_true rfl, Nat.le_of_ble_eq_true rfl⟩) (pV_PW hK hPc hDc (ci := 2) (q0 := 0) rfl rfl) rfl rfl hl.1 rfl (lv_room (Nat.le_of_ble_eq_true rfl)) dL_law_286 ⟨Nat.le_of_ble_eq_true rfl, Nat.le_of_ble_eq_true rfl⟩) hP hD hS hA [13, 14, 15, 16, 17, 18, 19, 20, 21, 22] [0, 1, 2, 3, 4, 5, 6, 7, 8, 9, 10, 11, 12] [0, 1, 2, 3, 4, 5, 6, 7, 8, 9, 10, 11, 12, 13, 14, 15, 16, 17, 18, 19, 20, 21, 22] rfl rfl (by decide) (by decide) (by decide) (fun _ => rfl) (fun r2 u2 H locs hw hK hP hD hS => ?_)
      have hK := hK0
      have hst : r1 = r2 ∧ True := ⟨by rw [hw1, hw]; exact hSM.2.2.2.2.2.1, trivial⟩
      have hP : va_P (dC, dI) vwCl (wH cI cS h tr sl dw cw D C T (nI q) wc nw ds wd ++ wM cJ cB cZ a U se id pr en be th bs wh (nI qm) len md nm) H := hP
      have hD : va_D A (wH cI cS h tr sl dw cw D C T (nI q) wc nw ds wd ++ wM cJ cB cZ a U se id pr en be th bs wh (nI qm) len md nm) := hD
      refine lv_icmp_eq (tgt := 330) hx hb dL_law_289 (by decide) (fun c289 => ?_) (fun c289 => ?_)
      · skip
        refine lv_iinc (v := (nI (i + 6))) (lv' := [(3, .int (nI (i + 6))), (0, .ref b), (1, .ref h), (2, .ref (a 0))]) hx hb dL_law_330 hl (k := 3) rfl (nI_add i 6) (by decide) rfl (fun ls hl => ?_)
        refine lv_goto (tgt := 18) hx hb dL_law_333 (by decide) ?_
        exact ih (i + 6, q, T, dw, cw, D, C, wc, nw, ds, wd, U, se, id, pr, en, be, th, bs, wh, qm, len, md, nm) _ _ _ ⟨by omega, hSM, hP, hD, hS, lv_sub hl [1, 2, 3, 0] rfl⟩ (by show L + 6 - (i + 6) < L + 6 - i; omega)
      · skip
        exact absurd hst.1 c289
    · refine lv_tableIn (off := 261) (tgt := 294) hx hb dL_law_33 (by decide) (by decide) (by decide) (by decide) ?_
      refine lv_aload_n hx hb dL_law_294 rfl (lv_at hl 1 rfl) ?_
      have hK0 := hK
      have hK : va_K (dC, dI) vwCl [(cI, .int), (cS, tDg)] s := hK.sub [0, 1] rfl
      have hPc := hP.sub (ws' := wH cI cS h tr sl dw cw D C T (nI q) wc nw ds wd) [0, 1, 2, 3, 4, 5, 6, 7, 8, 9, 10, 11, 12] rfl
      have hDc := hD.sub (ws' := wH cI cS h tr sl dw cw D C T (nI q) wc nw ds wd) [0, 1, 2, 3, 4, 5, 6, 7, 8, 9, 10, 11, 12] (by decide) rfl
      refine fh_ci (wr := wM cJ cB cZ a U se id pr en be th bs wh (nI qm) len md nm) (w2 := fun u => wH cI cS h tr sl dw cw D C T (nI q) wc nw ds wd ++ wM cJ cB cZ a U se id pr en be th bs wh (nI qm) len md nm) (va_runV (As := []) (rest := []) ⟨hx, hb, hml, hown, hts⟩ (c_length l dC dI cI cS h tr sl dw cw D C T (nI q) wc nw ds wd H.size) (cwV 0 hts gL_law_X1_length rfl rfl rfl (by decide +kernel) ⟨Nat.le_of_ble_eq_true rfl, Nat.le_of_ble_eq_true rfl⟩) (pV_PW hK hPc hDc (ci := 1) (q0 := 0) rfl rfl) rfl rfl hl.1 rfl (lv_room (Nat.le_of_ble_eq_true rfl)) dL_law_295 ⟨Nat.le_of_ble_eq_true rfl, Nat.le_of_ble_eq_true rfl⟩) hP hD hS hA [0, 1, 2, 3, 4, 5, 6, 7, 8, 9, 10, 11, 12] [13, 14, 15, 16, 17, 18, 19, 20, 21, 22] [10, 11, 12, 13, 14, 15, 16, 17, 18, 19, 20, 21, 22, 0, 1, 2, 3, 4, 5, 6, 7, 8, 9] rfl rfl (by decide) (by decide) (by decide) (fun _ => rfl) (fun r1 u1 H locs hw hK hP hD hS => ?_)
      have hK := hK0
      have hw1 := hw
      have hP : va_P (dC, dI) vwCl (wH cI cS h tr sl dw cw D C T (nI q) wc nw ds wd ++ wM cJ cB cZ a U se id pr en be th bs wh (nI qm) len md nm) H := hP
      have hD : va_D A (wH cI cS h tr sl dw cw D C T (nI q) wc nw ds wd ++ wM cJ cB cZ a U se id pr en be th bs wh (nI qm) len md nm) := hD
      refine lv_aload_n hx hb dL_law_298 rfl (lv_at hl 2 rfl) ?_
      have hK0 := hK
      have hK : va_K (dC, dI) vwCl [(cJ, .int), (cB, .byte), (cZ, .boolean)] s := hK.sub [2, 3, 4] rfl
      have hPc := hP.sub (ws' := wM cJ cB cZ a U se id pr en be th bs wh (nI qm) len md nm) [13, 14, 15, 16, 17, 18, 19, 20, 21, 22] rfl
      have hDc := hD.sub (ws' := wM cJ cB cZ a U se id pr en be th bs wh (nI qm) len md nm) [13, 14, 15, 16, 17, 18, 19, 20, 21, 22] (by decide) rfl
      refine fh_ci (wr := wH cI cS h tr sl dw cw D C T (nI q) wc nw ds wd) (w2 := fun u => wH cI cS h tr sl dw cw D C T (nI q) wc nw ds wd ++ wM cJ cB cZ a U se id pr en be th bs wh (nI qm) len md nm) (va_runV (As := []) (rest := [.int r1]) ⟨hx, hb, hml, hown, hts⟩ (m_length l dC dI cJ cB cZ a U se id pr en be th bs wh (nI qm) len md nm H.size) (cwV 0 hts gL_law_X2_length rfl rfl rfl (by decide +kernel) ⟨Nat.le_of_ble_eq_true rfl, Nat.le_of_ble_eq_true rfl⟩) (pV_PW hK hPc hDc (ci := 2) (q0 := 0) rfl rfl) rfl rfl hl.1 rfl (lv_room (Nat.le_of_ble_eq_true rfl)) dL_law_299 ⟨Nat.le_of_ble_eq_true rfl, Nat.le_of_ble_eq_true rfl⟩) hP hD hS hA [13, 14, 15, 16, 17, 18, 19, 20, 21, 22] [0, 1, 2, 3, 4, 5, 6, 7, 8, 9, 10, 11, 12] [0, 1, 2, 3, 4, 5, 6, 7, 8, 9, 10, 11, 12, 13, 14, 15, 16, 17, 18, 19, 20, 21, 22] rfl rfl (by decide) (by decide) (by decide) (fun _ => rfl) (fun r2 u2 H locs hw hK hP hD hS => ?_)
      have hK := hK0
      have hst : r1 = r2 ∧ True := ⟨by rw [hw1, hw]; exact hSM.2.2.2.2.2.2.1.2.1, trivial⟩
      have hP : va_P (dC, dI) vwCl (wH cI cS h tr sl dw cw D C T (nI q) wc nw ds wd ++ wM cJ cB cZ a U se id pr en be th bs wh (nI qm) len md nm) H := hP
      have hD : va_D A (wH cI cS h tr sl dw cw D C T (nI q) wc nw ds wd ++ wM cJ cB cZ a U se id pr en be th bs wh (nI qm) len md nm) := hD
      refine lv_icmp_eq (tgt := 330) hx hb dL_law_302 (by decide) (fun c302 => ?_) (fun c302 => ?_)
      · skip
        refine lv_iinc (v := (nI (i + 6))) (lv' := [(3, .int (nI (i + 6))), (0, .ref b), (1, .ref h), (2, .ref (a 0))]) hx hb dL_law_330 hl (k := 3) rfl (nI_add i 6) (by decide) rfl (fun ls hl => ?_)
        refine lv_goto (tgt := 18) hx hb dL_law_333 (by decide) ?_
        exact ih (i + 6, q, T, dw, cw, D, C, wc, nw, ds, wd, U, se, id, pr, en, be, th, bs, wh, qm, len, md, nm) _ _ _ ⟨by omega, hSM, hP, hD, hS, lv_sub hl [1, 2, 3, 0] rfl⟩ (by show L + 6 - (i + 6) < L + 6 - i; omega)
      · skip
        exact absurd hst.1 c302
    · refine lv_tableIn (off := 274) (tgt := 307) hx hb dL_law_33 (by decide) (by decide) (by decide) (by decide) ?_
      refine lv_aload_n hx hb dL_law_307 rfl (lv_at hl 1 rfl) ?_
      refine lv_aload_n hx hb dL_law_308 rfl (lv_at hl 0 rfl) ?_
      refine lv_iload_n hx hb dL_law_309 rfl (lv_at hl 3 rfl) ?_
      refine lv_iconst (v := nI 1) hx hb dL_law_310 (by first | decide | rfl) ?_
      refine lv_iadd hx hb dL_law_311 ?_
      refine fh_top (y := nI (i + 1)) (nI_add i 1) ?_
      refine fh_sld (k := (i + 1)) hx hb hX hbl hbA hS (by omega) (by omega) dL_law_312 ?_
      have hK0 := hK
      have hK : va_K (dC, dI) vwCl [(cI, .int), (cS, tDg)] s := hK.sub [0, 1] rfl
      have hPc := hP.sub (ws' := wH cI cS h tr sl dw cw D C T (nI q) wc nw ds wd) [0, 1, 2, 3, 4, 5, 6, 7, 8, 9, 10, 11, 12] rfl
      have hDc := hD.sub (ws' := wH cI cS h tr sl dw cw D C T (nI q) wc nw ds wd) [0, 1, 2, 3, 4, 5, 6, 7, 8, 9, 10, 11, 12] (by decide) rfl
      refine fh_ci (wr := wM cJ cB cZ a U se id pr en be th bs wh (nI qm) len md nm) (w2 := fun u => wH cI cS h tr sl dw cw D C T (nI q) wc nw ds wd ++ wM cJ cB cZ a U se id pr en be th bs wh (nI qm) len md nm) (va_runV (As := [.int (xs ((i + 1)))]) (rest := []) ⟨hx, hb, hml, hown, hts⟩ (c_at l dC dI cI cS h tr sl dw cw D C T (nI q) wc nw ds wd (xs (i + 1)) H.size (SM_wd hSM)) (cwV 1 hts gL_law_X1_at rfl rfl rfl (by decide +kernel) ⟨Nat.le_of_ble_eq_true rfl, Nat.le_of_ble_eq_true rfl⟩) (pV_PW hK hPc hDc (ci := 1) (q0 := 0) rfl rfl) rfl rfl hl.1 rfl (lv_room (Nat.le_of_ble_eq_true rfl)) dL_law_313 ⟨Nat.le_of_ble_eq_true rfl, Nat.le_of_ble_eq_true rfl⟩) hP hD hS hA [0, 1, 2, 3, 4, 5, 6, 7, 8, 9, 10, 11, 12] [13, 14, 15, 16, 17, 18, 19, 20, 21, 22] [10, 11, 12, 13, 14, 15, 16, 17, 18, 19, 20, 21, 22, 0, 1, 2, 3, 4, 5, 6, 7, 8, 9] rfl rfl (by decide) (by decide) (by decide) (fun _ => rfl) (fun r1 u1 H locs hw hK hP hD hS => ?_)
      have hK := hK0
      have hw1 := hw
      have hP : va_P (dC, dI) vwCl (wH cI cS h tr sl dw cw D C T (nI q) wc nw ds wd ++ wM cJ cB cZ a U se id pr en be th bs wh (nI qm) len md nm) H := hP
      have hD : va_D A (wH cI cS h tr sl dw cw D C T (nI q) wc nw ds wd ++ wM cJ cB cZ a U se id pr en be th bs wh (nI qm) len md nm) := hD
      refine lv_aload_n hx hb dL_law_316 rfl (lv_at hl 2 rfl) ?_
      refine lv_aload_n hx hb dL_law_317 rfl (lv_at hl 0 rfl) ?_
      refine lv_iload_n hx hb dL_law_318 rfl (lv_at hl 3 rfl) ?_
      refine lv_iconst (v := nI 1) hx hb dL_law_319 (by first | decide | rfl) ?_
      refine lv_iadd hx hb dL_law_320 ?_
      refine fh_top (y := nI (i + 1)) (nI_add i 1) ?_
      refine fh_sld (k := (i + 1)) hx hb hX hbl hbA hS (by omega) (by omega) dL_law_321 ?_
      have hK0 := hK
      have hK : va_K (dC, dI) vwCl [(cJ, .int), (cB, .byte), (cZ, .boolean)] s := hK.sub [2, 3, 4] rfl
      have hPc := hP.sub (ws' := wM cJ cB cZ a U se id pr en be th bs wh (nI qm) len md nm) [13, 14, 15, 16, 17, 18, 19, 20, 21, 22] rfl
      have hDc := hD.sub (ws' := wM cJ cB cZ a U se id pr en be th bs wh (nI qm) len md nm) [13, 14, 15, 16, 17, 18, 19, 20, 21, 22] (by decide) rfl
      refine fh_ci (wr := wH cI cS h tr sl dw cw D C T (nI q) wc nw ds wd) (w2 := fun u => wH cI cS h tr sl dw cw D C T (nI q) wc nw ds wd ++ wM cJ cB cZ a U se id pr en be th bs wh (nI qm) len md nm) (va_runV (As := [.int (xs ((i + 1)))]) (rest := [.int r1]) ⟨hx, hb, hml, hown, hts⟩ (m_at l dC dI cJ cB cZ a U se id pr en be th bs wh (nI qm) len md nm (xs (i + 1)) H.size (SM_len hSM)) (cwV 1 hts gL_law_X2_at rfl rfl rfl (by decide +kernel) ⟨Nat.le_of_ble_eq_true rfl, Nat.le_of_ble_eq_true rfl⟩) (pV_PW hK hPc hDc (ci := 2) (q0 := 0) rfl rfl) rfl rfl hl.1 rfl (lv_room (Nat.le_of_ble_eq_true rfl)) dL_law_322 ⟨Nat.le_of_ble_eq_true rfl, Nat.le_of_ble_eq_true rfl⟩) hP hD hS hA [13, 14, 15, 16, 17, 18, 19, 20, 21, 22] [0, 1, 2, 3, 4, 5, 6, 7, 8, 9, 10, 11, 12] [0, 1, 2, 3, 4, 5, 6, 7, 8, 9, 10, 11, 12, 13, 14, 15, 16, 17, 18, 19, 20, 21, 22] rfl rfl (by decide) (by decide) (by decide) (fun _ => rfl) (fun r2 u2 H locs hw hK hP hD hS => ?_)
      have hK := hK0
      have hst : r1 = r2 ∧ True := ⟨st_at hSM hw1 hw, trivial⟩
      have hP : va_P (dC, dI) vwCl (wH cI cS h tr sl dw cw D C T (nI q) wc nw ds wd ++ wM cJ cB cZ a U se id pr en be th bs wh (nI qm) len md nm) H := hP
      have hD : va_D A (wH cI cS h tr sl dw cw D C T (nI q) wc nw ds wd ++ wM cJ cB cZ a U se id pr en be th bs wh (nI qm) len md nm) := hD
      refine lv_icmp_eq (tgt := 330) hx hb dL_law_325 (by decide) (fun c325 => ?_) (fun c325 => ?_)
      · skip
        refine lv_iinc (v := (nI (i + 6))) (lv' := [(3, .int (nI (i + 6))), (0, .ref b), (1, .ref h), (2, .ref (a 0))]) hx hb dL_law_330 hl (k := 3) rfl (nI_add i 6) (by decide) rfl (fun ls hl => ?_)
        refine lv_goto (tgt := 18) hx hb dL_law_333 (by decide) ?_
        exact ih (i + 6, q, T, dw, cw, D, C, wc, nw, ds, wd, U, se, id, pr, en, be, th, bs, wh, qm, len, md, nm) _ _ _ ⟨by omega, hSM, hP, hD, hS, lv_sub hl [1, 2, 3, 0] rfl⟩ (by show L + 6 - (i + 6) < L + 6 - i; omega)
      · skip
        exact absurd hst.1 c325
