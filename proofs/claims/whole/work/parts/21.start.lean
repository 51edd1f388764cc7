/-! from the law's entry to its loop -/
theorem ktab {w : Cond} {i : Nat} (h : tables_1[i]? = some w) : w ∈ lw_tbl := List.mem_append_right _ (List.mem_of_getElem? h)
set_option maxRecDepth 100000 in
theorem kE_start {s : State} {b : Nat} (hts : ∀ w ∈ lw_tbl, w.before #[Value.ref b] s = true) (hgv : (Jvm.Cond.and given_1 narrow_1).before #[Value.ref b] s = true) : kE s := by
  have hs := flat_of_before _ hgv
  have tx : ∀ (k : Nat) (tx : String) (i : Nat), tables_1[i]? = some (Cond.stringRef "StageClock" k tx) → (Cond.exactly (.string "StageClock" k) "java/lang/String").before #[Value.ref b] s = true → ∃ a : Nat, vk_R "StageClock" k tx a s := fun k tx i hi hx => by
    obtain ⟨a, c, cA, kA, q1, -⟩ := Cond.exactly_spec (args := #[Value.ref b]) (first := s) (o := none) (s := s) (idx := []) hx
    exact ⟨a, vk_R.of (hts _ (ktab hi)) q1⟩
  refine ⟨fun w hw => ?_, fun q hq => ?_, va_Nc.of (hs _ (by decide +kernel)), va_Nc.of (hs _ (by decide +kernel))⟩
  · have h0 : w.before #[Value.ref b] s = true := by
      simp only [kND, List.mem_cons, List.not_mem_nil, or_false] at hw
      rcases hw with rfl | rfl | rfl | rfl | rfl | rfl
      · exact hts _ (ktab (i := 71) (by decide +kernel))
      · exact hts _ (ktab (i := 73) (by decide +kernel))
      · exact hts _ (ktab (i := 75) (by decide +kernel))
      · exact hts _ (ktab (i := 69) (by decide +kernel))
      · exact hts _ (ktab (i := 138) (by decide +kernel))
      · exact hts _ (ktab (i := 208) (by decide +kernel))
    exact va_tabs (kND_ot hw) rfl h0
  · simp only [kTX, List.mem_cons, List.not_mem_nil, or_false] at hq
    rcases hq with rfl | rfl | rfl | rfl | rfl | rfl | rfl | rfl | rfl
    · exact tx 93 _ 108 (by decide +kernel) (hs _ (by decide +kernel))
    · exact tx 95 _ 135 (by decide +kernel) (hs _ (by decide +kernel))
    · exact tx 50 _ 145 (by decide +kernel) (hs _ (by decide +kernel))
    · exact tx 71 _ 229 (by decide +kernel) (hs _ (by decide +kernel))
    · exact tx 74 _ 237 (by decide +kernel) (hs _ (by decide +kernel))
    · exact tx 76 _ 245 (by decide +kernel) (hs _ (by decide +kernel))
    · exact tx 82 _ 264 (by decide +kernel) (hs _ (by decide +kernel))
    · exact tx 91 _ 280 (by decide +kernel) (hs _ (by decide +kernel))
    · exact tx 99 _ 215 (by decide +kernel) (hs _ (by decide +kernel))
set_option maxRecDepth 100000 in
theorem kZ_start {s : State} {b : Nat} (hts : ∀ w ∈ lw_tbl, w.before #[Value.ref b] s = true) (hgv : (Jvm.Cond.and given_1 narrow_1).before #[Value.ref b] s = true) : kZ (fun q => s.heap.size ≤ q) s s.heap := by
  have hs := flat_of_before _ hgv
  have hA : ∀ a : Nat, a < s.heap.size → ¬ (fun q => s.heap.size ≤ q) a := fun a h => Nat.not_le.mpr h
  exact ⟨vx_Zqof (hts _ (ktab (i := 94) (by decide +kernel))) (hts _ (ktab (i := 3) (by decide +kernel))) (hs _ (by decide +kernel)) hA, vx_Zqof (hts _ (ktab (i := 96) (by decide +kernel))) (hts _ (ktab (i := 3) (by decide +kernel))) (hs _ (by decide +kernel)) hA⟩
theorem kK_start {s : State} {args : Array Value} (hB : ∀ w ∈ kBIG, w.before args s = true) : ∃ D : va_G, va_K D kcl [] s := by
  obtain ⟨c0, i0, h0⟩ := u_known (n := 10) hB kin0 (hB _ kw_12)
  obtain ⟨c1, i1, h1⟩ := u_known (n := 15) hB kin1 (hB _ kw_282)
  refine ⟨(fun c => if c = 0 then c0 else c1, fun c => if c = 0 then i0 else i1), fun c q hq => ?_, fun k q hk => by simp at hk⟩
  match c, hq with
  | 0, hq =>
    have e : (("StageClock", T0, 10) : vw_C) = q := Option.some.inj hq
    subst e
    exact h0
  | 1, hq =>
    have e : (("StageClockModel", T1, 15) : vw_C) = q := Option.some.inj hq
    subst e
    exact h1
  | n + 2, hq => exact absurd (show (none : Option vw_C) = some q from hq) (by simp)
theorem kinit_blind {D : va_G} {w : va_W} {sz : Nat} {av : List Value} : FrameBlind (va_Pc av (fun U => U.heap.size = sz ∧ va_P D kcl w U.heap ∧ va_K D kcl [] U ∧ va_D (fun _ => True) w ∧ va_AOA .int U)) := fun a U g mk q => by
  obtain ⟨q0, q1, qP, qK, qD, qA⟩ := q
  exact ⟨q0, q1, qP, va_K.moved (u := U) (U := U.calling g mk a) (Vm.Alike.refl U.vm) qK, qD, va_AOA.moved (u := U) (U := U.calling g mk a) (Vm.Alike.refl U.vm) qA⟩
theorem kSt_zero : kSt (fun _ => (0, 0, 0, 0, false, 0, false)) 0 (fun _ _ => 0) := ⟨⟨by decide, by decide, fun i hi => absurd hi (Nat.not_lt_zero i)⟩, fun i hi => absurd hi (Nat.not_lt_zero i)⟩
theorem mSt_zero : mSt (fun _ => (0, 0, 0, 0, false, 0, false)) 0 (fun _ _ => 0) := ⟨⟨by decide, by decide, fun i hi => absurd hi (Nat.not_lt_zero i)⟩, 0, Nat.le_refl 0, by decide, fun i hi => absurd hi (Nat.not_lt_zero i)⟩
set_option maxHeartbeats 8000000 in
set_option maxRecDepth 100000 in
theorem whole_start {p : Program} {e : Env} {s : State} {m : MethodId} {below : List Frame} {meth : Method} {c : Code} (l : Launch) (hl0 : l.stackTraces = false) {b L : Nat} {xs : Nat → Int32} (hL : L ≤ 4608) (C0 : lw_At p s m meth c b L xs) : W p l e room_1 s m #[Value.ref b] below meth c s.heap [] 0 0 (lw_Z below #[Value.ref b] s) (entryFrame m ([Value.ref b] : List Value).toArray 7) := by
  have C1 := C0
  obtain ⟨hx, hb, hr, hml, hown, hts, hX, hbl, hlocks, hgv⟩ := C0
  have hB : ∀ w ∈ kBIG, w.before #[Value.ref b] s = true := fun w q => hts w (List.mem_filter.mp q).1
  have hE := kE_start hts hgv
  have hZ := kZ_start hts hgv
  obtain ⟨D, hK⟩ := kK_start hB
  have hao : va_AOA .int s := va_AOA.of (hts _ (ktab (i := 20) (by decide +kernel)))
  have hown : s.vm.findClass "StageClockLaw" = some m.cls := hown
  have hb : c.code = cL_law := hb
  have hl := lv_entry ([.ref b]) (n := 7) (Nat.le_of_ble_eq_true rfl)
  rw [lg_entry_eq]
  generalize (lg_sl ([.ref b]) ++ List.replicate (7 - (lg_sl ([.ref b])).length) Slot.unset).toArray = ls at hl ⊢
  have hl : lv_has ls 7 [(0, .ref b)] := hl
  obtain ⟨A, hAe⟩ : ∃ A : Nat → Prop, A = fun q => s.heap.size ≤ q := ⟨_, rfl⟩
  have hA : ∀ q : Nat, s.heap.size ≤ q → A q := fun q h => by rw [hAe]; exact h
  have hS : va_S A s.heap s.heap [] := va_S.rf
  have hP : va_P D kcl [] s.heap := fun k q hk => by simp at hk
  have hD : va_D A [] := ⟨fun i j x y hi => by simp at hi, fun k q hk => by simp at hk⟩
  refine va_new (D := D) (cl := kcl) (ci := 0) (fs := [.null, .null, .null, .null, .null, .null, .null, .null, .null, .int 0]) (C := "StageClock") (T := T0) (N := 10) hx hb hB kin0 ty0 ty0_ok hown (hB _ kw_11) (hB _ kw_12) (hB _ kw_1) hK hP hD hS hA rfl (fun j hj => by rcases (show j = 0 ∨ j = 1 ∨ j = 2 ∨ j = 3 ∨ j = 4 ∨ j = 5 ∨ j = 6 ∨ j = 7 ∨ j = 8 ∨ j = 9 by omega) with rfl | rfl | rfl | rfl | rfl | rfl | rfl | rfl | rfl | rfl <;> rfl) (Nat.le_of_ble_eq_true rfl) (Nat.le_of_ble_eq_true rfl) dL_law_0 (fun h H hP hD hS => ?_)
  have hP : va_P D kcl [(h, .inr (0, [.null, .null, .null, .null, .null, .null, .null, .null, .null, .int 0]))] H := hP
  have hD : va_D A [(h, .inr (0, [.null, .null, .null, .null, .null, .null, .null, .null, .null, .int 0]))] := hD
  refine W.widen (k := 1) (n := 10) (by decide) (by decide) ?_
  refine lv_dup hx hb dL_law_3 rfl ?_
  have hF := va_free (wc := [(h, .inr (0, [.null, .null, .null, .null, .null, .null, .null, .null, .null, .int 0]))]) hD hS hA [0] rfl
  refine va_callv (va_runI (As := []) (rest := [.ref h]) ⟨hx, hb, hml, hown, hB⟩ (C0_init l D h H.size) (cwI 0 hB (kgI kw_15) rfl rfl rfl (hB _ kw_1) (hB _ kw_13) (hB _ kw_14) rfl (by decide +kernel) ⟨Nat.le_of_ble_eq_true rfl, Nat.le_of_ble_eq_true rfl⟩) ⟨kinit_blind, fun U hU hW => ⟨rfl, by rw [hU], by rw [hU]; exact hP, va_K.moved hW.alike hK, hD.weaken (fun _ _ _ _ => trivial), va_AOA.moved hW.alike hao⟩⟩ rfl rfl hl.1 rfl (lv_room (Nat.le_of_ble_eq_true rfl)) dL_law_4 ⟨Nat.le_of_ble_eq_true rfl, Nat.le_of_ble_eq_true rfl⟩) hS (fun q _ g => hF q g) hF (fun q t H1 locs ht hvm hw hB1 hz1 hk1 hS => ?_)
  obtain ⟨ad, cI, cZ, cG⟩ := q
  obtain ⟨hP1, hK1, hD1⟩ := hB1
  rw [ht] at hP1
  have hK : va_K D kcl (kty cI cZ cG) s := va_K.moved hvm.symm hK1
  have hI : kI D A s.heap (kwC h ad cI cZ cG (fun _ _ => 0)) H1 locs := ⟨hP1, hD1.weaken (fun _ _ _ q => hF _ q), hS⟩
  refine W.widen (k := 17) (n := 2833) (by decide) (by decide) ?_
  refine lv_astore_n hx hb dL_law_7 rfl hl (by decide) rfl (fun ls hl => ?_)
  have hl : lv_has ls 7 [(1, .ref h), (0, .ref b)] := hl
  refine va_new (D := D) (cl := kcl) (ci := 1) (fs := [.int 0, .null, .null, .null, .null, .null, .null, .null, .null, .null, .null, .null, .null, .int 0, .int 0]) (C := "StageClockModel") (T := T1) (N := 15) hx hb hB kin1 ty1 ty1_ok hown (hB _ kw_281) (hB _ kw_282) (hB _ kw_2) hK hI.1 hI.2.1 hI.2.2 hA rfl (fun j hj => by rcases (show j = 0 ∨ j = 1 ∨ j = 2 ∨ j = 3 ∨ j = 4 ∨ j = 5 ∨ j = 6 ∨ j = 7 ∨ j = 8 ∨ j = 9 ∨ j = 10 ∨ j = 11 ∨ j = 12 ∨ j = 13 ∨ j = 14 by omega) with rfl | rfl | rfl | rfl | rfl | rfl | rfl | rfl | rfl | rfl | rfl | rfl | rfl | rfl | rfl <;> rfl) (Nat.le_of_ble_eq_true rfl) (Nat.le_of_ble_eq_true rfl) dL_law_8 (fun h2 H hP hD hS => ?_)
  have hI : kI D A s.heap ([(h2, .inr (1, [.int 0, .null, .null, .null, .null, .null, .null, .null, .null, .null, .null, .null, .null, .int 0, .int 0]))] ++ kwC h ad cI cZ cG (fun _ _ => 0)) H locs := kI_swap ⟨hP, hD, hS⟩
  refine W.widen (k := 18) (n := 2848) (by decide) (by decide) ?_
  refine lv_dup hx hb dL_law_11 rfl ?_
  have hF := kfree (kI_l hI) hA
  refine va_callv (va_runI (As := []) (rest := [.ref h2]) ⟨hx, hb, hml, hown, hB⟩ (C1_init l D h2 H.size) (cwI 0 hB (kgI kw_285) rfl rfl rfl (hB _ kw_2) (hB _ kw_283) (hB _ kw_284) rfl (by decide +kernel) ⟨Nat.le_of_ble_eq_true rfl, Nat.le_of_ble_eq_true rfl⟩) ⟨kinit_blind, fun U hU hW => ⟨rfl, by rw [hU], by rw [hU]; exact (kI_l hI).1, va_K.moved hW.alike (hK.sub [] rfl), (kI_l hI).2.1.weaken (fun _ _ _ _ => trivial), va_AOA.moved hW.alike hao⟩⟩ rfl rfl hl.1 rfl (lv_room (Nat.le_of_ble_eq_true rfl)) dL_law_12 ⟨Nat.le_of_ble_eq_true rfl, Nat.le_of_ble_eq_true rfl⟩) hI.2.2 (fun q _ g => hF q g) hF (fun q t H1 locs ht hvm hw hB1 hz1 hk1 hS => ?_)
  obtain ⟨ad2, c2, z2⟩ := q
  obtain ⟨hP1, hK1, hD1⟩ := hB1
  rw [ht] at hP1
  have hK2 : va_K D kcl [(c2, .int), (z2, .boolean)] s := va_K.moved hvm.symm hK1
  have e1 : cI = c2 := Option.some.inj ((show s.vm.findClass ("[" ++ FieldType.int.toString) = some cI from (hK.2 0 _ rfl).2).symm.trans (show s.vm.findClass ("[" ++ FieldType.int.toString) = some c2 from (hK2.2 0 _ rfl).2))
  have e2 : cZ = z2 := Option.some.inj ((show s.vm.findClass ("[" ++ FieldType.boolean.toString) = some cZ from (hK.2 1 _ rfl).2).symm.trans (show s.vm.findClass ("[" ++ FieldType.boolean.toString) = some z2 from (hK2.2 1 _ rfl).2))
  subst e1
  subst e2
  have hI : kI D A s.heap (kwC h ad cI cZ cG (fun _ _ => 0) ++ kwM h2 ad2 cI cZ (fun _ _ => 0)) H1 locs := kI_swap (kframe hI hk1 hP1 hD1 hF hS)
  refine W.widen (k := 30) (n := 5248) (by decide) (by decide) ?_
  refine lv_astore_n hx hb dL_law_15 rfl hl (by decide) rfl (fun ls hl => ?_)
  have hl : lv_has ls 7 [(2, .ref h2), (1, .ref h), (0, .ref b)] := hl
  refine lv_iconst (v := nI 1) hx hb dL_law_16 (by decide) ?_
  refine va_newa (atype := .long) (ty := .long) (a0 := (1, .inr (.inl (fun _ => 0)))) (N' := 1) hx hb (hB _ kw_407) rfl hK hI.1 hI.2.1 hI.2.2 hA (fun _ => rfl) (by decide) (by decide) (by decide) (Nat.le_of_ble_eq_true rfl) (Nat.le_of_ble_eq_true rfl) dL_law_17 (fun o cJ H hK hP hD hS => ?_)
  have hK : va_K D kcl (ktz cI cZ cG cJ) s := hK
  have hI : kI D A s.heap (kwO h ad cI cZ cG cJ o (fun _ _ => 0) ++ kwM h2 ad2 cI cZ (fun _ _ => 0)) H locs := ⟨hP.swap, hD.swap, hS⟩
  refine W.widen (k := 31) (n := 5249) (by decide) (by decide) ?_
  refine lv_astore_n hx hb dL_law_19 rfl hl (by decide) rfl (fun ls hl => ?_)
  refine lv_iconst (v := nI (9 * 0)) hx hb dL_law_20 (by decide) ?_
  refine lv_istore hx hb dL_law_21 hl (by decide) rfl (fun ls hl => ?_)
  have hl : lv_has ls 7 [(4, .int (nI (9 * 0))), (3, .ref o), (2, .ref h2), (1, .ref h), (0, .ref b)] := hl
  subst hAe
  exact W.widen (k := 100 + 2 * 0) (n := 10000 + 12 * 0) (by decide) (by decide) (L_law l hl0 hL C1 D cI cZ cG cJ h h2 o ad ad2 hK hE hZ 512 ls H locs 0 (fun _ _ => 0) (fun _ _ => 0) (fun _ => (0, 0, 0, 0, false, 0, false)) 0 (by omega) (by omega) kSt_zero mSt_zero hl hI)
