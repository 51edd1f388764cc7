set_option maxHeartbeats 4000000 in
set_option maxRecDepth 100000 in
theorem L1_reck2 {p : Program} {e : Env} {s : State} {m : MethodId} {args : Array Value} {below : List Frame} {meth : Method} {c : Code} {Q : State → Prop} {A : Nat → Prop} (l : Launch) (D : va_G) (cI cZ cG : ClassId) (h : Nat) (ad : Nat → Nat) (u : kU) (P : Nat → kIns) (n k bs : Nat) (fb : Int32) (hk : k < n) (hbs : bs < 2 ^ 30) (hx : p.tables.exec = Jvm.exec) (hb : c.code = c1_reckon) (hml : c.maxLocals = 4) (hown : s.vm.findClass "StageClockModel" = some m.cls) (hB : ∀ w ∈ kBIG, w.before args s = true) (hK : va_K D kcl (kty cI cZ cG) s) (hA : ∀ q : Nat, s.heap.size ≤ q → A q) (hE : kE s) (hZ : kZ A s s.heap)
    (kk : ∀ (ls : Array Slot) (H : Heap) (locs : List Loc) (x : kU) (hmk : mK P n k u x) (hF : x 7 k = nI (mt_tm P k).1) (hD : x 8 k = nI (mt_tm P k).2.1) (hX : x 9 k = nI (mt_rd P (mt_tm P) k bs 15)), lv_has ls 4 [(3, .int (nI 16)), (2, .int fb), (1, .int (nI k)), (0, .ref h)] → kI D A s.heap (kwM h ad cI cZ x) H locs → W p l e ({ frames := 2, cells := 0, slots := 0, locals := 60 } : Room) s m args below meth c H locs 0 0 Q (F0 m 186 ls []))
    : ∀ (d : Nat) (ls : Array Slot) (H : Heap) (locs : List Loc) (r : Nat) (x : kU) (hd : r + d = 15) (hmk : mK P n k u x) (hF : x 7 k = nI (mt_tm P k).1) (hD : x 8 k = nI (mt_tm P k).2.1) (hX : x 9 k = nI (mt_rd P (mt_tm P) k bs r)), lv_has ls 4 [(3, .int (nI (r + 1))), (2, .int fb), (1, .int (nI k)), (0, .ref h)] → kI D A s.heap (kwM h ad cI cZ x) H locs → W p l e ({ frames := 2, cells := 0, slots := 0, locals := 60 } : Room) s m args below meth c H locs 0 0 Q (F0 m 139 ls []) := by
  intro d
  induction d with
  | zero =>
    intro ls H locs r x hd hmk hF hD hX hl hI
    obtain rfl : r = 15 := by omega
    refine lv_iload_n hx hb d1_reckon_139 rfl (lv_at hl 0 rfl) ?_
    refine lv_bipush (v := nI 16) hx hb d1_reckon_140 (by decide) ?_
    refine lv_icmp_ge (tgt := 186) hx hb d1_reckon_142 (by decide) (fun hc => ?_) (fun hc => ?_)
    · skip
      exact kk ls H locs x hmk hF hD hX hl hI
    · exact absurd (nI_le (Nat.le_refl 16) (by decide)) hc
  | succ d ih =>
    intro ls H locs r x hd hmk hF hD hX hl hI
    have hn := hmk.1.2.1
    have hok : ∀ j, j < k → mt_ok (P j) := fun j hj => (hmk.1.2.2 j (by omega)).1
    have hb1 := mt_rd_le hok bs r
    have hb2 := mt_beh_le hok (r + 1)
    refine lv_iload_n hx hb d1_reckon_139 rfl (lv_at hl 0 rfl) ?_
    refine lv_bipush (v := nI 16) hx hb d1_reckon_140 (by decide) ?_
    refine lv_icmp_ge (tgt := 186) hx hb d1_reckon_142 (by decide) (fun hc => ?_) (fun hc => ?_)
    · exact absurd hc (nI_ge (by omega) (by decide))
    · skip
      refine lv_aload_n hx hb d1_reckon_145 rfl (lv_at hl 3 rfl) ?_
      refine kM_g3 hx hb hB hown hK hI d1_reckon_146 ?_
      refine lv_iload_n hx hb d1_reckon_149 rfl (lv_at hl 2 rfl) ?_
      refine kM_l2 (v := mt_r (P k)) hx hb hK hI k (by omega) (rfl) ((hmk.1.2.2 k hk).2.2.2.1) d1_reckon_150 ?_
      refine lv_iload_n hx hb d1_reckon_151 rfl (lv_at hl 0 rfl) ?_
      refine k_ishr (v := (mt_r (P k)) >>> ((nI (r + 1)) &&& 31)) hx hb (rfl) d1_reckon_152 ?_
      refine lv_iconst (v := 1) hx hb d1_reckon_153 (by decide) ?_
      refine k_iand (v := ((mt_r (P k)) >>> ((nI (r + 1)) &&& 31)) &&& 1) hx hb (rfl) d1_reckon_154 ?_
      refine lv_iconst (v := 1) hx hb d1_reckon_155 (by decide) ?_
      refine lv_icmp_ne (tgt := 180) hx hb d1_reckon_156 (by decide) (fun hc => ?_) (fun hc => ?_)
      · skip
        have hrd : mt_rd P (mt_tm P) k bs (r + 1) = mt_rd P (mt_tm P) k bs r := mt_rd_f (decide_eq_false hc)
        refine lv_iinc (k := 0) (v := nI ((r + 1) + 1)) hx hb d1_reckon_180 hl rfl (by rw [show Int32.ofInt 1 = 1 by decide]; exact nI_1 _) (by decide) rfl (fun ls hl => ?_)
        have hl : lv_has ls 4 [(3, .int (nI ((r + 1) + 1))), (2, .int fb), (1, .int (nI k)), (0, .ref h)] := hl
        refine lv_goto (tgt := 139) hx hb d1_reckon_183 (by decide) ?_
        exact ih ls H locs (r + 1) x (by omega) hmk hF hD (by rw [hrd]; exact hX) (lv_sub hl [0, 1, 2, 3] rfl) hI
      · skip
        have hrd : mt_rd P (mt_tm P) k bs (r + 1) = max (mt_rd P (mt_tm P) k bs r) (mt_beh P (mt_tm P) k (r + 1)) := mt_rd_t (decide_eq_true hc)
        refine lv_aload_n hx hb d1_reckon_159 rfl (lv_at hl 3 rfl) ?_
        refine kM_g10 hx hb hB hown hK hI d1_reckon_160 ?_
        refine lv_iload_n hx hb d1_reckon_163 rfl (lv_at hl 2 rfl) ?_
        refine lv_aload_n hx hb d1_reckon_164 rfl (lv_at hl 3 rfl) ?_
        refine kM_g10 hx hb hB hown hK hI d1_reckon_165 ?_
        refine lv_iload_n hx hb d1_reckon_168 rfl (lv_at hl 2 rfl) ?_
        refine kM_l9 (v := nI (mt_rd P (mt_tm P) k bs r)) hx hb hK hI k (by omega) (rfl) (hX) d1_reckon_169 ?_
        refine lv_aload_n hx hb d1_reckon_170 rfl (lv_at hl 3 rfl) ?_
        refine lv_iload_n hx hb d1_reckon_171 rfl (lv_at hl 2 rfl) ?_
        refine lv_iload_n hx hb d1_reckon_172 rfl (lv_at hl 0 rfl) ?_
        refine kcall_i (n := 2) (u := x) (wf := kwM h ad cI cZ) (As := [.int (nI k), .int (nI (r + 1))]) (b := h) (rest := [.int (nI (mt_rd P (mt_tm P) k bs r)), .int (nI k), .ref (ad 9)]) hx hb hml hown hB hK hI hA hE hZ (C1_behind l D cI cZ cG h ad H.size x P n hmk.1 k (r + 1) hk (by omega) hmk.2.1) (kgV kw_375 kw_377 ks1_behind kw_2 kw_378) (by decide +kernel) ⟨Nat.le_of_ble_eq_true rfl, Nat.le_of_ble_eq_true rfl⟩ (va_recv (q0 := 0) (ci := 1) hK hI.1 rfl rfl) rfl hl.1 (Nat.le_of_ble_eq_true rfl) d1_reckon_173 ⟨Nat.le_of_ble_eq_true rfl, Nat.le_of_ble_eq_true rfl⟩ rfl (fun ra xa H locs hq hI => ?_)
        obtain ⟨hv, hxu⟩ := hq
        rw [hxu] at hI
        rw [hv]
        refine kcall_si (n := 2) (u := x) (wf := kwM h ad cI cZ) (As := [.int (nI (mt_rd P (mt_tm P) k bs r)), .int (nI (mt_beh P (mt_tm P) k (r + 1)))]) (rest := [.int (nI k), .ref (ad 9)]) hx hb hml hown hB hK hI hA hE hZ (C1_more l D cI cZ cG h ad H.size x (mt_rd P (mt_tm P) k bs r) (mt_beh P (mt_tm P) k (r + 1)) (by omega) (by omega)) (kgS kw_372 kw_373 kw_2 kw_374) (by decide +kernel) ⟨Nat.le_of_ble_eq_true rfl, Nat.le_of_ble_eq_true rfl⟩ rfl hl.1 (Nat.le_of_ble_eq_true rfl) d1_reckon_176 ⟨Nat.le_of_ble_eq_true rfl, Nat.le_of_ble_eq_true rfl⟩ rfl (fun ra xa H locs hq hI => ?_)
        obtain ⟨hv, hxu⟩ := hq
        rw [hxu] at hI
        rw [hv]
        refine kM_s9 hx hb hK hI k (by omega) (rfl) d1_reckon_179 (fun H locs hI => ?_)
        refine lv_iinc (k := 0) (v := nI ((r + 1) + 1)) hx hb d1_reckon_180 hl rfl (by rw [show Int32.ofInt 1 = 1 by decide]; exact nI_1 _) (by decide) rfl (fun ls hl => ?_)
        have hl : lv_has ls 4 [(3, .int (nI ((r + 1) + 1))), (2, .int fb), (1, .int (nI k)), (0, .ref h)] := hl
        refine lv_goto (tgt := 139) hx hb d1_reckon_183 (by decide) ?_
        exact ih ls H locs (r + 1) _ (by omega) (mK_set hmk (by decide) (by decide)) (by rw [kset_ne (by decide)]; exact hF) (by rw [kset_ne (by decide)]; exact hD) (by rw [hrd]; exact kset_eq) (lv_sub hl [0, 1, 2, 3] rfl) hI
set_option maxHeartbeats 4000000 in
set_option maxRecDepth 100000 in
theorem L1_reckon {p : Program} {e : Env} {s : State} {m : MethodId} {args : Array Value} {below : List Frame} {meth : Method} {c : Code} {Q : State → Prop} {A : Nat → Prop} (l : Launch) (D : va_G) (cI cZ cG : ClassId) (h : Nat) (ad : Nat → Nat) (u : kU) (P : Nat → kIns) (n : Nat) (hx : p.tables.exec = Jvm.exec) (hb : c.code = c1_reckon) (hml : c.maxLocals = 4) (hown : s.vm.findClass "StageClockModel" = some m.cls) (hB : ∀ w ∈ kBIG, w.before args s = true) (hK : va_K D kcl (kty cI cZ cG) s) (hA : ∀ q : Nat, s.heap.size ≤ q → A q) (hE : kE s) (hZ : kZ A s s.heap)
    (kk : ∀ (ls : Array Slot) (H : Heap) (locs : List Loc) (x : kU) (hmk : mK P n n u x), lv_has ls 4 [(0, .ref h)] → kI D A s.heap (kwM h ad cI cZ x) H locs → W p l e ({ frames := 2, cells := 0, slots := 0, locals := 60 } : Room) s m args below meth c H locs 0 0 Q (F0 m 279 ls []))
    : ∀ (d : Nat) (ls : Array Slot) (H : Heap) (locs : List Loc) (k : Nat) (x : kU) (hd : k + d = n) (hmk : mK P n k u x), lv_has ls 4 [(0, .ref h)] → kI D A s.heap (kwM h ad cI cZ x) H locs → W p l e ({ frames := 2, cells := 0, slots := 0, locals := 60 } : Room) s m args below meth c H locs 0 0 Q (F0 m 0 ls []) := by
  intro d
  induction d with
  | zero =>
    intro ls H locs k x hd hmk hl hI
    obtain rfl : k = n := by omega
    have hn := hmk.1.2.1
    refine lv_aload_n hx hb d1_reckon_0 rfl (lv_at hl 0 rfl) ?_
    refine kM_g14 hx hb hB hown hK hI d1_reckon_1 ?_
    rw [show x 14 0 = nI k from hmk.2.2.1]
    refine lv_aload_n hx hb d1_reckon_4 rfl (lv_at hl 0 rfl) ?_
    refine kM_g13 hx hb hB hown hK hI d1_reckon_5 ?_
    rw [show x 13 0 = nI k from hmk.1.1]
    refine lv_icmp_ge (tgt := 279) hx hb d1_reckon_8 (by decide) (fun hc => ?_) (fun hc => ?_)
    · skip
      exact kk ls H locs x hmk hl hI
    · exact absurd (nI_le (Nat.le_refl _) (by omega)) hc
  | succ d ih =>
    intro ls H locs k x hd hmk hl hI
    have hn := hmk.1.2.1
    refine lv_aload_n hx hb d1_reckon_0 rfl (lv_at hl 0 rfl) ?_
    refine kM_g14 hx hb hB hown hK hI d1_reckon_1 ?_
    rw [show x 14 0 = nI k from hmk.2.2.1]
    refine lv_aload_n hx hb d1_reckon_4 rfl (lv_at hl 0 rfl) ?_
    refine kM_g13 hx hb hB hown hK hI d1_reckon_5 ?_
    rw [show x 13 0 = nI n from hmk.1.1]
    refine lv_icmp_ge (tgt := 279) hx hb d1_reckon_8 (by decide) (fun hc => ?_) (fun hc => ?_)
    · exact absurd hc (nI_ge (by omega) (by omega))
    · skip
      refine lv_aload_n hx hb d1_reckon_11 rfl (lv_at hl 0 rfl) ?_
      refine kM_g14 hx hb hB hown hK hI d1_reckon_12 ?_
      rw [show x 14 0 = nI k from hmk.2.2.1]
      refine lv_istore_n hx hb d1_reckon_15 rfl hl (by decide) rfl (fun ls hl => ?_)
      have hl : lv_has ls 4 [(1, .int (nI k)), (0, .ref h)] := hl
      refine lv_iload_n hx hb d1_reckon_16 rfl (lv_at hl 0 rfl) ?_
      refine lv_if_ne (tgt := 24) hx hb d1_reckon_17 (by decide) (fun hc => ?_) (fun hc => ?_)
      · skip
        obtain ⟨a, rfl⟩ := knI_s hc
        have hbd := mt_bound (P := P) (i := a + 1) (fun j hj => (hmk.1.2.2 j (by omega)).1)
        have hbp := mt_bound (P := P) (i := a) (fun j hj => (hmk.1.2.2 j (by omega)).1)
        have hoki := (hmk.1.2.2 (a + 1) (by omega)).1
        have hokp := (hmk.1.2.2 a (by omega)).1
        unfold mt_ok at hoki hokp
        have hb9 := mt_beh_le (P := P) (i := a + 1) (fun j hj => (hmk.1.2.2 j (by omega)).1) (mt_l (P (a + 1)))
        refine lv_iconst (v := kb false) hx hb d1_reckon_24 (by decide) ?_
        refine lv_istore_n hx hb d1_reckon_25 rfl hl (by decide) rfl (fun ls hl => ?_)
        have hl : lv_has ls 4 [(2, .int (kb false)), (1, .int (nI (a + 1))), (0, .ref h)] := hl
        refine lv_aload_n hx hb d1_reckon_26 rfl (lv_at hl 2 rfl) ?_
        refine kM_g8 hx hb hB hown hK hI d1_reckon_27 ?_
        refine lv_iload_n hx hb d1_reckon_30 rfl (lv_at hl 1 rfl) ?_
        refine lv_iload_n hx hb d1_reckon_31 rfl (lv_at hl 0 rfl) ?_
        refine lv_if_eq (tgt := 39) hx hb d1_reckon_32 (by decide) (fun hc => ?_) (fun hc => ?_)
        · skip
          refine lv_aload_n hx hb d1_reckon_39 rfl (lv_at hl 2 rfl) ?_
          refine kM_g7 hx hb hB hown hK hI d1_reckon_40 ?_
          refine lv_iload_n hx hb d1_reckon_43 rfl (lv_at hl 1 rfl) ?_
          refine lv_iconst (v := nI 1) hx hb d1_reckon_44 (by decide) ?_
          refine k_isub (v := nI a) hx hb (pk_sub (by omega)) d1_reckon_45 ?_
          refine kM_l6 (v := kb (mt_wr (P a))) hx hb hK hI a (by omega) (rfl) ((hmk.1.2.2 a (by omega)).2.2.2.2.2.2.2) d1_reckon_46 ?_
          refine lv_if_eq (tgt := 62) hx hb d1_reckon_47 (by decide) (fun hc => ?_) (fun hc => ?_)
          · skip
            have hw := kb_0 hc
            have hFe := mt_F_f hw
            refine lv_aload_n hx hb d1_reckon_62 rfl (lv_at hl 2 rfl) ?_
            refine kM_g9 hx hb hB hown hK hI d1_reckon_63 ?_
            refine lv_iload_n hx hb d1_reckon_66 rfl (lv_at hl 1 rfl) ?_
            refine lv_iconst (v := nI 1) hx hb d1_reckon_67 (by decide) ?_
            refine k_isub (v := nI a) hx hb (pk_sub (by omega)) d1_reckon_68 ?_
            refine kM_l8 (v := nI (mt_tm P a).2.1) hx hb hK hI a (by omega) (rfl) ((hmk.2.1 a (by omega)).2.1) d1_reckon_69 ?_
            refine kM_s7 hx hb hK hI (a + 1) (by omega) (rfl) d1_reckon_70 (fun H locs hI => ?_)
            obtain ⟨x1, hx1⟩ : ∃ zz : kU, zz = kset x 7 (a + 1) (nI (mt_tm P a).2.1) := ⟨_, rfl⟩
            rw [← hx1] at hI
            have hFx1 : x1 7 (a + 1) = nI (mt_tm P (a + 1)).1 := (show x1 7 (a + 1) = nI _ by rw [hx1]; exact kset_eq).trans (congrArg nI (hFe).symm)
            have hmx1 : mK P n (a + 1) u x1 := by rw [hx1]; exact mK_set hmk (by decide) (by decide)
            refine lv_aload_n hx hb d1_reckon_71 rfl (lv_at hl 2 rfl) ?_
            refine kM_g9 hx hb hB hown hK hI d1_reckon_72 ?_
            refine lv_iload_n hx hb d1_reckon_75 rfl (lv_at hl 1 rfl) ?_
            refine lv_aload_n hx hb d1_reckon_76 rfl (lv_at hl 2 rfl) ?_
            refine kM_g8 hx hb hB hown hK hI d1_reckon_77 ?_
            refine lv_iload_n hx hb d1_reckon_80 rfl (lv_at hl 1 rfl) ?_
            refine kM_l7 (v := nI (mt_tm P (a + 1)).1) hx hb hK hI (a + 1) (by omega) (rfl) (hFx1) d1_reckon_81 ?_
            refine lv_iconst (v := nI 1) hx hb d1_reckon_82 (by decide) ?_
            refine k_iadd (v := nI ((mt_tm P (a + 1)).1 + 1)) hx hb (nI_add _ _) d1_reckon_83 ?_
            refine lv_iload_n hx hb d1_reckon_84 rfl (lv_at hl 0 rfl) ?_
            refine lv_if_eq (tgt := 92) hx hb d1_reckon_85 (by decide) (fun hc => ?_) (fun hc => ?_)
            · skip
              refine lv_aload_n hx hb d1_reckon_92 rfl (lv_at hl 2 rfl) ?_
              refine kM_g10 hx hb hB hown hK hI d1_reckon_93 ?_
              refine lv_iload_n hx hb d1_reckon_96 rfl (lv_at hl 1 rfl) ?_
              refine lv_iconst (v := nI 1) hx hb d1_reckon_97 (by decide) ?_
              refine k_isub (v := nI a) hx hb (pk_sub (by omega)) d1_reckon_98 ?_
              refine kM_l9 (v := nI (mt_tm P a).2.2.1) hx hb hK hI a (by omega) (rfl) ((hmx1.2.1 a (by omega)).2.2.1) d1_reckon_99 ?_
              refine kcall_si (n := 2) (u := x1) (wf := kwM h ad cI cZ) (As := [.int (nI ((mt_tm P (a + 1)).1 + 1)), .int (nI (mt_tm P a).2.2.1)]) (rest := [.int (nI (a + 1)), .ref (ad 8)]) hx hb hml hown hB hK hI hA hE hZ (C1_more l D cI cZ cG h ad H.size x1 _ _ (by omega) (by omega)) (kgS kw_372 kw_373 kw_2 kw_374) (by decide +kernel) ⟨Nat.le_of_ble_eq_true rfl, Nat.le_of_ble_eq_true rfl⟩ rfl hl.1 (Nat.le_of_ble_eq_true rfl) d1_reckon_100 ⟨Nat.le_of_ble_eq_true rfl, Nat.le_of_ble_eq_true rfl⟩ rfl (fun ra xa H locs hq hI => ?_)
              obtain ⟨hv, hxu⟩ := hq
              rw [hxu] at hI
              rw [hv]
              refine kM_s8 hx hb hK hI (a + 1) (by omega) (rfl) d1_reckon_103 (fun H locs hI => ?_)
              obtain ⟨x2, hx2⟩ : ∃ zz : kU, zz = kset x1 8 (a + 1) (nI (max ((mt_tm P (a + 1)).1 + 1) (mt_tm P a).2.2.1)) := ⟨_, rfl⟩
              rw [← hx2] at hI
              have hDx2 : x2 8 (a + 1) = nI (mt_tm P (a + 1)).2.1 := (show x2 8 (a + 1) = nI _ by rw [hx2]; exact kset_eq).trans (congrArg nI (mt_D_eq P (a + 1)).symm)
              have hFx2 : x2 7 (a + 1) = nI (mt_tm P (a + 1)).1 := by rw [hx2, kset_ne (by decide)]; exact hFx1
              have hmx2 : mK P n (a + 1) u x2 := by rw [hx2]; exact mK_set hmx1 (by decide) (by decide)
              refine lv_aload_n hx hb d1_reckon_104 rfl (lv_at hl 2 rfl) ?_
              refine kM_g10 hx hb hB hown hK hI d1_reckon_105 ?_
              refine lv_iload_n hx hb d1_reckon_108 rfl (lv_at hl 1 rfl) ?_
              refine lv_aload_n hx hb d1_reckon_109 rfl (lv_at hl 2 rfl) ?_
              refine kM_g9 hx hb hB hown hK hI d1_reckon_110 ?_
              refine lv_iload_n hx hb d1_reckon_113 rfl (lv_at hl 1 rfl) ?_
              refine kM_l8 (v := nI (mt_tm P (a + 1)).2.1) hx hb hK hI (a + 1) (by omega) (rfl) (hDx2) d1_reckon_114 ?_
              refine lv_iconst (v := nI 1) hx hb d1_reckon_115 (by decide) ?_
              refine k_iadd (v := nI ((mt_tm P (a + 1)).2.1 + 1)) hx hb (nI_add _ _) d1_reckon_116 ?_
              refine lv_iload_n hx hb d1_reckon_117 rfl (lv_at hl 0 rfl) ?_
              refine lv_if_eq (tgt := 125) hx hb d1_reckon_118 (by decide) (fun hc => ?_) (fun hc => ?_)
              · skip
                refine lv_aload_n hx hb d1_reckon_125 rfl (lv_at hl 2 rfl) ?_
                refine kM_g11 hx hb hB hown hK hI d1_reckon_126 ?_
                refine lv_iload_n hx hb d1_reckon_129 rfl (lv_at hl 1 rfl) ?_
                refine lv_iconst (v := nI 1) hx hb d1_reckon_130 (by decide) ?_
                refine k_isub (v := nI a) hx hb (pk_sub (by omega)) d1_reckon_131 ?_
                refine kM_l10 (v := nI (mt_tm P a).2.2.2.1) hx hb hK hI a (by omega) (rfl) ((hmx2.2.1 a (by omega)).2.2.2.1) d1_reckon_132 ?_
                refine kcall_si (n := 2) (u := x2) (wf := kwM h ad cI cZ) (As := [.int (nI ((mt_tm P (a + 1)).2.1 + 1)), .int (nI (mt_tm P a).2.2.2.1)]) (rest := [.int (nI (a + 1)), .ref (ad 9)]) hx hb hml hown hB hK hI hA hE hZ (C1_more l D cI cZ cG h ad H.size x2 _ _ (by omega) (by omega)) (kgS kw_372 kw_373 kw_2 kw_374) (by decide +kernel) ⟨Nat.le_of_ble_eq_true rfl, Nat.le_of_ble_eq_true rfl⟩ rfl hl.1 (Nat.le_of_ble_eq_true rfl) d1_reckon_133 ⟨Nat.le_of_ble_eq_true rfl, Nat.le_of_ble_eq_true rfl⟩ rfl (fun ra xa H locs hq hI => ?_)
                obtain ⟨hv, hxu⟩ := hq
                rw [hxu] at hI
                rw [hv]
                refine kM_s9 hx hb hK hI (a + 1) (by omega) (rfl) d1_reckon_136 (fun H locs hI => ?_)
                obtain ⟨x3, hx3⟩ : ∃ zz : kU, zz = kset x2 9 (a + 1) (nI (max ((mt_tm P (a + 1)).2.1 + 1) (mt_tm P a).2.2.2.1)) := ⟨_, rfl⟩
                rw [← hx3] at hI
                have hXx3 : x3 9 (a + 1) = nI (mt_rd P (mt_tm P) (a + 1) (max ((mt_tm P (a + 1)).2.1 + 1) (mt_tm P a).2.2.2.1) 0) := by rw [hx3]; exact kset_eq
                have hFx3 : x3 7 (a + 1) = nI (mt_tm P (a + 1)).1 := by rw [hx3, kset_ne (by decide)]; exact hFx2
                have hDx3 : x3 8 (a + 1) = nI (mt_tm P (a + 1)).2.1 := by rw [hx3, kset_ne (by decide)]; exact hDx2
                have hmx3 : mK P n (a + 1) u x3 := by rw [hx3]; exact mK_set hmx2 (by decide) (by decide)
                refine lv_iconst (v := nI 1) hx hb d1_reckon_137 (by decide) ?_
                refine lv_istore_n hx hb d1_reckon_138 rfl hl (by decide) rfl (fun ls hl => ?_)
                have hl : lv_has ls 4 [(3, .int (nI 1)), (2, .int (kb false)), (1, .int (nI (a + 1))), (0, .ref h)] := hl
                refine L1_reck2 l D cI cZ cG h ad u P n (a + 1) (max ((mt_tm P (a + 1)).2.1 + 1) (mt_tm P a).2.2.2.1) (kb false) (by omega) (by omega) hx hb hml hown hB hK hA hE hZ (fun ls H locs x4 hmx4 hFx4 hDx4 hX4 hl hI => ?_) 15 ls H locs 0 x3 rfl hmx3 hFx3 hDx3 hXx3 (lv_sub hl [0, 1, 2, 3] rfl) hI
                have hXx4 : x4 9 (a + 1) = nI (mt_tm P (a + 1)).2.2.1 := hX4.trans (congrArg nI (mt_X_rd P (a + 1)).symm)
                refine lv_aload_n hx hb d1_reckon_186 rfl (lv_at hl 3 rfl) ?_
                refine kM_g11 hx hb hB hown hK hI d1_reckon_187 ?_
                refine lv_iload_n hx hb d1_reckon_190 rfl (lv_at hl 2 rfl) ?_
                refine lv_aload_n hx hb d1_reckon_191 rfl (lv_at hl 3 rfl) ?_
                refine lv_iload_n hx hb d1_reckon_192 rfl (lv_at hl 2 rfl) ?_
                refine kcall_i (n := 1) (u := x4) (wf := kwM h ad cI cZ) (As := [.int (nI (a + 1))]) (b := h) (rest := [.int (nI (a + 1)), .ref (ad 10)]) hx hb hml hown hB hK hI hA hE hZ (C1_xe l D cI cZ cG h ad H.size x4 (a + 1) _ _ (by omega) hXx4 (hmx4.1.2.2 (a + 1) (by omega)).2.1 (hmx4.1.2.2 (a + 1) (by omega)).1.1) (kgV kw_368 kw_370 ks1_xe kw_2 kw_371) (by decide +kernel) ⟨Nat.le_of_ble_eq_true rfl, Nat.le_of_ble_eq_true rfl⟩ (va_recv (q0 := 0) (ci := 1) hK hI.1 rfl rfl) rfl hl.1 (Nat.le_of_ble_eq_true rfl) d1_reckon_193 ⟨Nat.le_of_ble_eq_true rfl, Nat.le_of_ble_eq_true rfl⟩ rfl (fun ra xa H locs hq hI => ?_)
                obtain ⟨hv, hxu⟩ := hq
                rw [hxu] at hI
                rw [hv]
                refine lv_iconst (v := nI 1) hx hb d1_reckon_196 (by decide) ?_
                refine k_iadd (v := nI (((mt_tm P (a + 1)).2.2.1 + mt_t (P (a + 1)) - 1) + 1)) hx hb (nI_add _ _) d1_reckon_197 ?_
                refine lv_iload_n hx hb d1_reckon_198 rfl (lv_at hl 1 rfl) ?_
                refine lv_if_eq (tgt := 206) hx hb d1_reckon_199 (by decide) (fun hc => ?_) (fun hc => ?_)
                · skip
                  refine lv_aload_n hx hb d1_reckon_206 rfl (lv_at hl 3 rfl) ?_
                  refine kM_g12 hx hb hB hown hK hI d1_reckon_207 ?_
                  refine lv_iload_n hx hb d1_reckon_210 rfl (lv_at hl 2 rfl) ?_
                  refine lv_iconst (v := nI 1) hx hb d1_reckon_211 (by decide) ?_
                  refine k_isub (v := nI a) hx hb (pk_sub (by omega)) d1_reckon_212 ?_
                  refine kM_l11 (v := nI (mt_tm P a).2.2.2.2) hx hb hK hI a (by omega) (rfl) ((hmx4.2.1 a (by omega)).2.2.2.2) d1_reckon_213 ?_
                  refine kcall_si (n := 2) (u := x4) (wf := kwM h ad cI cZ) (As := [.int (nI (((mt_tm P (a + 1)).2.2.1 + mt_t (P (a + 1)) - 1) + 1)), .int (nI (mt_tm P a).2.2.2.2)]) (rest := [.int (nI (a + 1)), .ref (ad 10)]) hx hb hml hown hB hK hI hA hE hZ (C1_more l D cI cZ cG h ad H.size x4 _ _ (by omega) (by omega)) (kgS kw_372 kw_373 kw_2 kw_374) (by decide +kernel) ⟨Nat.le_of_ble_eq_true rfl, Nat.le_of_ble_eq_true rfl⟩ rfl hl.1 (Nat.le_of_ble_eq_true rfl) d1_reckon_214 ⟨Nat.le_of_ble_eq_true rfl, Nat.le_of_ble_eq_true rfl⟩ rfl (fun ra xa H locs hq hI => ?_)
                  obtain ⟨hv, hxu⟩ := hq
                  rw [hxu] at hI
                  rw [hv]
                  refine kM_s10 hx hb hK hI (a + 1) (by omega) (rfl) d1_reckon_217 (fun H locs hI => ?_)
                  obtain ⟨x5, hx5⟩ : ∃ zz : kU, zz = kset x4 10 (a + 1) (nI (max ((mt_tm P (a + 1)).2.2.1 + mt_t (P (a + 1)) - 1 + 1) (mt_tm P a).2.2.2.2)) := ⟨_, rfl⟩
                  rw [← hx5] at hI
                  have hM5 : x5 10 (a + 1) = nI (max ((mt_tm P (a + 1)).2.2.1 + mt_t (P (a + 1)) - 1 + 1) (mt_tm P a).2.2.2.2) := by rw [hx5]; exact kset_eq
                  have hFx5 : x5 7 (a + 1) = nI (mt_tm P (a + 1)).1 := by rw [hx5, kset_ne (by decide)]; exact hFx4
                  have hDx5 : x5 8 (a + 1) = nI (mt_tm P (a + 1)).2.1 := by rw [hx5, kset_ne (by decide)]; exact hDx4
                  have hXx5 : x5 9 (a + 1) = nI (mt_tm P (a + 1)).2.2.1 := by rw [hx5, kset_ne (by decide)]; exact hXx4
                  have hmx5 : mK P n (a + 1) u x5 := by rw [hx5]; exact mK_set hmx4 (by decide) (by decide)
                  refine lv_aload_n hx hb d1_reckon_218 rfl (lv_at hl 3 rfl) ?_
                  refine kM_g4 hx hb hB hown hK hI d1_reckon_219 ?_
                  refine lv_iload_n hx hb d1_reckon_222 rfl (lv_at hl 2 rfl) ?_
                  refine kM_l3 (v := nI (mt_l (P (a + 1)))) hx hb hK hI (a + 1) (by omega) (rfl) ((hmx5.1.2.2 (a + 1) (by omega)).2.2.2.2.1) d1_reckon_223 ?_
                  refine lv_if_le (tgt := 253) hx hb d1_reckon_224 (by decide) (fun hc => ?_) (fun hc => ?_)
                  · skip
                    have hl0 : mt_l (P (a + 1)) = 0 := knI_le0 (by omega) hc
                    have hMe : (mt_tm P (a + 1)).2.2.2.1 = max ((mt_tm P (a + 1)).2.2.1 + mt_t (P (a + 1)) - 1 + 1) (mt_tm P a).2.2.2.2 := mt_M_0 hl0
                    obtain ⟨x6, hx6⟩ : ∃ z, z = x5 := ⟨_, rfl⟩
                    rw [← hx6] at hI hM5 hFx5 hDx5 hXx5 hmx5
                    have hMx6 : x6 10 (a + 1) = nI (mt_tm P (a + 1)).2.2.2.1 := hM5.trans (congrArg nI hMe.symm)
                    have hFx6 := hFx5
                    have hDx6 := hDx5
                    have hXx6 := hXx5
                    have hmx6 := hmx5
                    refine lv_aload_n hx hb d1_reckon_253 rfl (lv_at hl 3 rfl) ?_
                    refine kM_g12 hx hb hB hown hK hI d1_reckon_254 ?_
                    refine lv_iload_n hx hb d1_reckon_257 rfl (lv_at hl 2 rfl) ?_
                    refine lv_aload_n hx hb d1_reckon_258 rfl (lv_at hl 3 rfl) ?_
                    refine lv_iload_n hx hb d1_reckon_259 rfl (lv_at hl 2 rfl) ?_
                    refine kcall_i (n := 1) (u := x6) (wf := kwM h ad cI cZ) (As := [.int (nI (a + 1))]) (b := h) (rest := [.int (nI (a + 1)), .ref (ad 11)]) hx hb hml hown hB hK hI hA hE hZ (C1_me l D cI cZ cG h ad H.size x6 (a + 1) _ _ (by omega) hMx6 (hmx6.1.2.2 (a + 1) (by omega)).2.2.2.2.2.1) (kgV kw_383 kw_385 ks1_me kw_2 kw_386) (by decide +kernel) ⟨Nat.le_of_ble_eq_true rfl, Nat.le_of_ble_eq_true rfl⟩ (va_recv (q0 := 0) (ci := 1) hK hI.1 rfl rfl) rfl hl.1 (Nat.le_of_ble_eq_true rfl) d1_reckon_260 ⟨Nat.le_of_ble_eq_true rfl, Nat.le_of_ble_eq_true rfl⟩ rfl (fun ra xa H locs hq hI => ?_)
                    obtain ⟨hv, hxu⟩ := hq
                    rw [hxu] at hI
                    rw [hv]
                    refine lv_iconst (v := nI 1) hx hb d1_reckon_263 (by decide) ?_
                    refine k_iadd (v := nI (((mt_tm P (a + 1)).2.2.2.1 + mt_w (P (a + 1))) + 1)) hx hb (nI_add _ _) d1_reckon_264 ?_
                    refine kM_s11 hx hb hK hI (a + 1) (by omega) (rfl) d1_reckon_265 (fun H locs hI => ?_)
                    obtain ⟨x7, hx7⟩ : ∃ zz : kU, zz = kset x6 11 (a + 1) (nI (((mt_tm P (a + 1)).2.2.2.1 + mt_w (P (a + 1))) + 1)) := ⟨_, rfl⟩
                    rw [← hx7] at hI
                    have hWx7 : x7 11 (a + 1) = nI (mt_tm P (a + 1)).2.2.2.2 := (show x7 11 (a + 1) = nI _ by rw [hx7]; exact kset_eq).trans (congrArg nI (mt_W_eq P (a + 1)).symm)
                    have hFx7 : x7 7 (a + 1) = nI (mt_tm P (a + 1)).1 := by rw [hx7, kset_ne (by decide)]; exact hFx6
                    have hDx7 : x7 8 (a + 1) = nI (mt_tm P (a + 1)).2.1 := by rw [hx7, kset_ne (by decide)]; exact hDx6
                    have hXx7 : x7 9 (a + 1) = nI (mt_tm P (a + 1)).2.2.1 := by rw [hx7, kset_ne (by decide)]; exact hXx6
                    have hMx7 : x7 10 (a + 1) = nI (mt_tm P (a + 1)).2.2.2.1 := by rw [hx7, kset_ne (by decide)]; exact hMx6
                    have hmx7 : mK P n (a + 1) u x7 := by rw [hx7]; exact mK_set hmx6 (by decide) (by decide)
                    refine lv_aload_n hx hb d1_reckon_266 rfl (lv_at hl 3 rfl) ?_
                    refine lv_dup hx hb d1_reckon_267 rfl ?_
                    refine kM_g14 hx hb hB hown hK hI d1_reckon_268 ?_
                    rw [show x7 14 0 = nI (a + 1) from hmx7.2.2.1]
                    refine lv_iconst (v := nI 1) hx hb d1_reckon_271 (by decide) ?_
                    refine k_iadd (v := nI ((a + 1) + 1)) hx hb (nI_add _ _) d1_reckon_272 ?_
                    refine kM_p14 hx hb hB hown hK hI d1_reckon_273 (fun H locs hI => ?_)
                    obtain ⟨x8, hx8⟩ : ∃ zz : kU, zz = knum x7 14 (nI ((a + 1) + 1)) := ⟨_, rfl⟩
                    rw [← hx8] at hI
                    have hm8 : mK P n ((a + 1) + 1) u x8 := by rw [hx8]; exact mK_step hmx7 ⟨hFx7, hDx7, hXx7, hMx7, hWx7⟩
                    refine lv_goto (tgt := 0) hx hb d1_reckon_276 (by decide) ?_
                    exact ih ls H locs (a + 1 + 1) x8 (by omega) hm8 (lv_sub hl [3] rfl) hI
                  · skip
                    have hl0 : mt_l (P (a + 1)) ≠ 0 := fun q => hc (by rw [q, nI_0]; exact Int32.le_refl _)
                    refine lv_aload_n hx hb d1_reckon_227 rfl (lv_at hl 3 rfl) ?_
                    refine kM_g11 hx hb hB hown hK hI d1_reckon_228 ?_
                    refine lv_iload_n hx hb d1_reckon_231 rfl (lv_at hl 2 rfl) ?_
                    refine lv_aload_n hx hb d1_reckon_232 rfl (lv_at hl 3 rfl) ?_
                    refine kM_g11 hx hb hB hown hK hI d1_reckon_233 ?_
                    refine lv_iload_n hx hb d1_reckon_236 rfl (lv_at hl 2 rfl) ?_
                    refine kM_l10 (v := nI (max ((mt_tm P (a + 1)).2.2.1 + mt_t (P (a + 1)) - 1 + 1) (mt_tm P a).2.2.2.2)) hx hb hK hI (a + 1) (by omega) (rfl) (hM5) d1_reckon_237 ?_
                    refine lv_aload_n hx hb d1_reckon_238 rfl (lv_at hl 3 rfl) ?_
                    refine lv_iload_n hx hb d1_reckon_239 rfl (lv_at hl 2 rfl) ?_
                    refine lv_aload_n hx hb d1_reckon_240 rfl (lv_at hl 3 rfl) ?_
                    refine kM_g4 hx hb hB hown hK hI d1_reckon_241 ?_
                    refine lv_iload_n hx hb d1_reckon_244 rfl (lv_at hl 2 rfl) ?_
                    refine kM_l3 (v := nI (mt_l (P (a + 1)))) hx hb hK hI (a + 1) (by omega) (rfl) ((hmx5.1.2.2 (a + 1) (by omega)).2.2.2.2.1) d1_reckon_245 ?_
                    refine kcall_i (n := 2) (u := x5) (wf := kwM h ad cI cZ) (As := [.int (nI (a + 1)), .int (nI (mt_l (P (a + 1))))]) (b := h) (rest := [.int (nI (max ((mt_tm P (a + 1)).2.2.1 + mt_t (P (a + 1)) - 1 + 1) (mt_tm P a).2.2.2.2)), .int (nI (a + 1)), .ref (ad 10)]) hx hb hml hown hB hK hI hA hE hZ (C1_behind l D cI cZ cG h ad H.size x5 P n hmx5.1 (a + 1) (mt_l (P (a + 1))) (by omega) (by omega) hmx5.2.1) (kgV kw_375 kw_377 ks1_behind kw_2 kw_378) (by decide +kernel) ⟨Nat.le_of_ble_eq_true rfl, Nat.le_of_ble_eq_true rfl⟩ (va_recv (q0 := 0) (ci := 1) hK hI.1 rfl rfl) rfl hl.1 (Nat.le_of_ble_eq_true rfl) d1_reckon_246 ⟨Nat.le_of_ble_eq_true rfl, Nat.le_of_ble_eq_true rfl⟩ rfl (fun ra xa H locs hq hI => ?_)
                    obtain ⟨hv, hxu⟩ := hq
                    rw [hxu] at hI
                    rw [hv]
                    refine kcall_si (n := 2) (u := x5) (wf := kwM h ad cI cZ) (As := [.int (nI (max ((mt_tm P (a + 1)).2.2.1 + mt_t (P (a + 1)) - 1 + 1) (mt_tm P a).2.2.2.2)), .int (nI (mt_beh P (mt_tm P) (a + 1) (mt_l (P (a + 1)))))]) (rest := [.int (nI (a + 1)), .ref (ad 10)]) hx hb hml hown hB hK hI hA hE hZ (C1_more l D cI cZ cG h ad H.size x5 _ _ (by omega) (by omega)) (kgS kw_372 kw_373 kw_2 kw_374) (by decide +kernel) ⟨Nat.le_of_ble_eq_true rfl, Nat.le_of_ble_eq_true rfl⟩ rfl hl.1 (Nat.le_of_ble_eq_true rfl) d1_reckon_249 ⟨Nat.le_of_ble_eq_true rfl, Nat.le_of_ble_eq_true rfl⟩ rfl (fun ra xa H locs hq hI => ?_)
                    obtain ⟨hv, hxu⟩ := hq
                    rw [hxu] at hI
                    rw [hv]
                    refine kM_s10 hx hb hK hI (a + 1) (by omega) (rfl) d1_reckon_252 (fun H locs hI => ?_)
                    obtain ⟨x6, hx6⟩ : ∃ zz : kU, zz = kset x5 10 (a + 1) (nI (max (max ((mt_tm P (a + 1)).2.2.1 + mt_t (P (a + 1)) - 1 + 1) (mt_tm P a).2.2.2.2) (mt_beh P (mt_tm P) (a + 1) (mt_l (P (a + 1)))))) := ⟨_, rfl⟩
                    rw [← hx6] at hI
                    have hMx6 : x6 10 (a + 1) = nI (mt_tm P (a + 1)).2.2.2.1 := (show x6 10 (a + 1) = nI _ by rw [hx6]; exact kset_eq).trans (congrArg nI (mt_M_1 hl0).symm)
                    have hFx6 : x6 7 (a + 1) = nI (mt_tm P (a + 1)).1 := by rw [hx6, kset_ne (by decide)]; exact hFx5
                    have hDx6 : x6 8 (a + 1) = nI (mt_tm P (a + 1)).2.1 := by rw [hx6, kset_ne (by decide)]; exact hDx5
                    have hXx6 : x6 9 (a + 1) = nI (mt_tm P (a + 1)).2.2.1 := by rw [hx6, kset_ne (by decide)]; exact hXx5
                    have hmx6 : mK P n (a + 1) u x6 := by rw [hx6]; exact mK_set hmx5 (by decide) (by decide)
                    refine lv_aload_n hx hb d1_reckon_253 rfl (lv_at hl 3 rfl) ?_
                    refine kM_g12 hx hb hB hown hK hI d1_reckon_254 ?_
                    refine lv_iload_n hx hb d1_reckon_257 rfl (lv_at hl 2 rfl) ?_
                    refine lv_aload_n hx hb d1_reckon_258 rfl (lv_at hl 3 rfl) ?_
                    refine lv_iload_n hx hb d1_reckon_259 rfl (lv_at hl 2 rfl) ?_
                    refine kcall_i (n := 1) (u := x6) (wf := kwM h ad cI cZ) (As := [.int (nI (a + 1))]) (b := h) (rest := [.int (nI (a + 1)), .ref (ad 11)]) hx hb hml hown hB hK hI hA hE hZ (C1_me l D cI cZ cG h ad H.size x6 (a + 1) _ _ (by omega) hMx6 (hmx6.1.2.2 (a + 1) (by omega)).2.2.2.2.2.1) (kgV kw_383 kw_385 ks1_me kw_2 kw_386) (by decide +kernel) ⟨Nat.le_of_ble_eq_true rfl, Nat.le_of_ble_eq_true rfl⟩ (va_recv (q0 := 0) (ci := 1) hK hI.1 rfl rfl) rfl hl.1 (Nat.le_of_ble_eq_true rfl) d1_reckon_260 ⟨Nat.le_of_ble_eq_true rfl, Nat.le_of_ble_eq_true rfl⟩ rfl (fun ra xa H locs hq hI => ?_)
                    obtain ⟨hv, hxu⟩ := hq
                    rw [hxu] at hI
                    rw [hv]
                    refine lv_iconst (v := nI 1) hx hb d1_reckon_263 (by decide) ?_
                    refine k_iadd (v := nI (((mt_tm P (a + 1)).2.2.2.1 + mt_w (P (a + 1))) + 1)) hx hb (nI_add _ _) d1_reckon_264 ?_
                    refine kM_s11 hx hb hK hI (a + 1) (by omega) (rfl) d1_reckon_265 (fun H locs hI => ?_)
                    obtain ⟨x7, hx7⟩ : ∃ zz : kU, zz = kset x6 11 (a + 1) (nI (((mt_tm P (a + 1)).2.2.2.1 + mt_w (P (a + 1))) + 1)) := ⟨_, rfl⟩
                    rw [← hx7] at hI
                    have hWx7 : x7 11 (a + 1) = nI (mt_tm P (a + 1)).2.2.2.2 := (show x7 11 (a + 1) = nI _ by rw [hx7]; exact kset_eq).trans (congrArg nI (mt_W_eq P (a + 1)).symm)
                    have hFx7 : x7 7 (a + 1) = nI (mt_tm P (a + 1)).1 := by rw [hx7, kset_ne (by decide)]; exact hFx6
                    have hDx7 : x7 8 (a + 1) = nI (mt_tm P (a + 1)).2.1 := by rw [hx7, kset_ne (by decide)]; exact hDx6
                    have hXx7 : x7 9 (a + 1) = nI (mt_tm P (a + 1)).2.2.1 := by rw [hx7, kset_ne (by decide)]; exact hXx6
                    have hMx7 : x7 10 (a + 1) = nI (mt_tm P (a + 1)).2.2.2.1 := by rw [hx7, kset_ne (by decide)]; exact hMx6
                    have hmx7 : mK P n (a + 1) u x7 := by rw [hx7]; exact mK_set hmx6 (by decide) (by decide)
                    refine lv_aload_n hx hb d1_reckon_266 rfl (lv_at hl 3 rfl) ?_
                    refine lv_dup hx hb d1_reckon_267 rfl ?_
                    refine kM_g14 hx hb hB hown hK hI d1_reckon_268 ?_
                    rw [show x7 14 0 = nI (a + 1) from hmx7.2.2.1]
                    refine lv_iconst (v := nI 1) hx hb d1_reckon_271 (by decide) ?_
                    refine k_iadd (v := nI ((a + 1) + 1)) hx hb (nI_add _ _) d1_reckon_272 ?_
                    refine kM_p14 hx hb hB hown hK hI d1_reckon_273 (fun H locs hI => ?_)
                    obtain ⟨x8, hx8⟩ : ∃ zz : kU, zz = knum x7 14 (nI ((a + 1) + 1)) := ⟨_, rfl⟩
                    rw [← hx8] at hI
                    have hm8 : mK P n ((a + 1) + 1) u x8 := by rw [hx8]; exact mK_step hmx7 ⟨hFx7, hDx7, hXx7, hMx7, hWx7⟩
                    refine lv_goto (tgt := 0) hx hb d1_reckon_276 (by decide) ?_
                    exact ih ls H locs (a + 1 + 1) x8 (by omega) hm8 (lv_sub hl [3] rfl) hI
                · exact absurd rfl hc
              · exact absurd rfl hc
            · exact absurd rfl hc
          · skip
            have hw := kb_1 hc
            have hFe := mt_F_t hw
            refine lv_aload_n hx hb d1_reckon_50 rfl (lv_at hl 2 rfl) ?_
            refine lv_iload_n hx hb d1_reckon_51 rfl (lv_at hl 1 rfl) ?_
            refine lv_iconst (v := nI 1) hx hb d1_reckon_52 (by decide) ?_
            refine k_isub (v := nI a) hx hb (pk_sub (by omega)) d1_reckon_53 ?_
            refine kcall_i (n := 1) (u := x) (wf := kwM h ad cI cZ) (As := [.int (nI a)]) (b := h) (rest := [.int (nI (a + 1)), .ref (ad 7)]) hx hb hml hown hB hK hI hA hE hZ (C1_xe l D cI cZ cG h ad H.size x a _ _ (by omega) (hmk.2.1 a (by omega)).2.2.1 (hmk.1.2.2 a (by omega)).2.1 (hmk.1.2.2 a (by omega)).1.1) (kgV kw_368 kw_370 ks1_xe kw_2 kw_371) (by decide +kernel) ⟨Nat.le_of_ble_eq_true rfl, Nat.le_of_ble_eq_true rfl⟩ (va_recv (q0 := 0) (ci := 1) hK hI.1 rfl rfl) rfl hl.1 (Nat.le_of_ble_eq_true rfl) d1_reckon_54 ⟨Nat.le_of_ble_eq_true rfl, Nat.le_of_ble_eq_true rfl⟩ rfl (fun ra xa H locs hq hI => ?_)
            obtain ⟨hv, hxu⟩ := hq
            rw [hxu] at hI
            rw [hv]
            refine lv_iconst (v := nI 1) hx hb d1_reckon_57 (by decide) ?_
            refine k_iadd (v := nI (((mt_tm P a).2.2.1 + mt_t (P a) - 1) + 1)) hx hb (nI_add _ _) d1_reckon_58 ?_
            refine lv_goto (tgt := 70) hx hb d1_reckon_59 (by decide) ?_
            refine kM_s7 hx hb hK hI (a + 1) (by omega) (rfl) d1_reckon_70 (fun H locs hI => ?_)
            obtain ⟨x1, hx1⟩ : ∃ zz : kU, zz = kset x 7 (a + 1) (nI (((mt_tm P a).2.2.1 + mt_t (P a) - 1) + 1)) := ⟨_, rfl⟩
            rw [← hx1] at hI
            have hFx1 : x1 7 (a + 1) = nI (mt_tm P (a + 1)).1 := (show x1 7 (a + 1) = nI _ by rw [hx1]; exact kset_eq).trans (congrArg nI (hFe).symm)
            have hmx1 : mK P n (a + 1) u x1 := by rw [hx1]; exact mK_set hmk (by decide) (by decide)
            refine lv_aload_n hx hb d1_reckon_71 rfl (lv_at hl 2 rfl) ?_
            refine kM_g9 hx hb hB hown hK hI d1_reckon_72 ?_
            refine lv_iload_n hx hb d1_reckon_75 rfl (lv_at hl 1 rfl) ?_
            refine lv_aload_n hx hb d1_reckon_76 rfl (lv_at hl 2 rfl) ?_
            refine kM_g8 hx hb hB hown hK hI d1_reckon_77 ?_
            refine lv_iload_n hx hb d1_reckon_80 rfl (lv_at hl 1 rfl) ?_
            refine kM_l7 (v := nI (mt_tm P (a + 1)).1) hx hb hK hI (a + 1) (by omega) (rfl) (hFx1) d1_reckon_81 ?_
            refine lv_iconst (v := nI 1) hx hb d1_reckon_82 (by decide) ?_
            refine k_iadd (v := nI ((mt_tm P (a + 1)).1 + 1)) hx hb (nI_add _ _) d1_reckon_83 ?_
            refine lv_iload_n hx hb d1_reckon_84 rfl (lv_at hl 0 rfl) ?_
            refine lv_if_eq (tgt := 92) hx hb d1_reckon_85 (by decide) (fun hc => ?_) (fun hc => ?_)
            · skip
              refine lv_aload_n hx hb d1_reckon_92 rfl (lv_at hl 2 rfl) ?_
              refine kM_g10 hx hb hB hown hK hI d1_reckon_93 ?_
              refine lv_iload_n hx hb d1_reckon_96 rfl (lv_at hl 1 rfl) ?_
              refine lv_iconst (v := nI 1) hx hb d1_reckon_97 (by decide) ?_
              refine k_isub (v := nI a) hx hb (pk_sub (by omega)) d1_reckon_98 ?_
              refine kM_l9 (v := nI (mt_tm P a).2.2.1) hx hb hK hI a (by omega) (rfl) ((hmx1.2.1 a (by omega)).2.2.1) d1_reckon_99 ?_
              refine kcall_si (n := 2) (u := x1) (wf := kwM h ad cI cZ) (As := [.int (nI ((mt_tm P (a + 1)).1 + 1)), .int (nI (mt_tm P a).2.2.1)]) (rest := [.int (nI (a + 1)), .ref (ad 8)]) hx hb hml hown hB hK hI hA hE hZ (C1_more l D cI cZ cG h ad H.size x1 _ _ (by omega) (by omega)) (kgS kw_372 kw_373 kw_2 kw_374) (by decide +kernel) ⟨Nat.le_of_ble_eq_true rfl, Nat.le_of_ble_eq_true rfl⟩ rfl hl.1 (Nat.le_of_ble_eq_true rfl) d1_reckon_100 ⟨Nat.le_of_ble_eq_true rfl, Nat.le_of_ble_eq_true rfl⟩ rfl (fun ra xa H locs hq hI => ?_)
              obtain ⟨hv, hxu⟩ := hq
              rw [hxu] at hI
              rw [hv]
              refine kM_s8 hx hb hK hI (a + 1) (by omega) (rfl) d1_reckon_103 (fun H locs hI => ?_)
              obtain ⟨x2, hx2⟩ : ∃ zz : kU, zz = kset x1 8 (a + 1) (nI (max ((mt_tm P (a + 1)).1 + 1) (mt_tm P a).2.2.1)) := ⟨_, rfl⟩
              rw [← hx2] at hI
              have hDx2 : x2 8 (a + 1) = nI (mt_tm P (a + 1)).2.1 := (show x2 8 (a + 1) = nI _ by rw [hx2]; exact kset_eq).trans (congrArg nI (mt_D_eq P (a + 1)).symm)
              have hFx2 : x2 7 (a + 1) = nI (mt_tm P (a + 1)).1 := by rw [hx2, kset_ne (by decide)]; exact hFx1
              have hmx2 : mK P n (a + 1) u x2 := by rw [hx2]; exact mK_set hmx1 (by decide) (by decide)
              refine lv_aload_n hx hb d1_reckon_104 rfl (lv_at hl 2 rfl) ?_
              refine kM_g10 hx hb hB hown hK hI d1_reckon_105 ?_
              refine lv_iload_n hx hb d1_reckon_108 rfl (lv_at hl 1 rfl) ?_
              refine lv_aload_n hx hb d1_reckon_109 rfl (lv_at hl 2 rfl) ?_
              refine kM_g9 hx hb hB hown hK hI d1_reckon_110 ?_
              refine lv_iload_n hx hb d1_reckon_113 rfl (lv_at hl 1 rfl) ?_
              refine kM_l8 (v := nI (mt_tm P (a + 1)).2.1) hx hb hK hI (a + 1) (by omega) (rfl) (hDx2) d1_reckon_114 ?_
              refine lv_iconst (v := nI 1) hx hb d1_reckon_115 (by decide) ?_
              refine k_iadd (v := nI ((mt_tm P (a + 1)).2.1 + 1)) hx hb (nI_add _ _) d1_reckon_116 ?_
              refine lv_iload_n hx hb d1_reckon_117 rfl (lv_at hl 0 rfl) ?_
              refine lv_if_eq (tgt := 125) hx hb d1_reckon_118 (by decide) (fun hc => ?_) (fun hc => ?_)
              · skip
                refine lv_aload_n hx hb d1_reckon_125 rfl (lv_at hl 2 rfl) ?_
                refine kM_g11 hx hb hB hown hK hI d1_reckon_126 ?_
                refine lv_iload_n hx hb d1_reckon_129 rfl (lv_at hl 1 rfl) ?_
                refine lv_iconst (v := nI 1) hx hb d1_reckon_130 (by decide) ?_
                refine k_isub (v := nI a) hx hb (pk_sub (by omega)) d1_reckon_131 ?_
                refine kM_l10 (v := nI (mt_tm P a).2.2.2.1) hx hb hK hI a (by omega) (rfl) ((hmx2.2.1 a (by omega)).2.2.2.1) d1_reckon_132 ?_
                refine kcall_si (n := 2) (u := x2) (wf := kwM h ad cI cZ) (As := [.int (nI ((mt_tm P (a + 1)).2.1 + 1)), .int (nI (mt_tm P a).2.2.2.1)]) (rest := [.int (nI (a + 1)), .ref (ad 9)]) hx hb hml hown hB hK hI hA hE hZ (C1_more l D cI cZ cG h ad H.size x2 _ _ (by omega) (by omega)) (kgS kw_372 kw_373 kw_2 kw_374) (by decide +kernel) ⟨Nat.le_of_ble_eq_true rfl, Nat.le_of_ble_eq_true rfl⟩ rfl hl.1 (Nat.le_of_ble_eq_true rfl) d1_reckon_133 ⟨Nat.le_of_ble_eq_true rfl, Nat.le_of_ble_eq_true rfl⟩ rfl (fun ra xa H locs hq hI => ?_)
                obtain ⟨hv, hxu⟩ := hq
                rw [hxu] at hI
                rw [hv]
                refine kM_s9 hx hb hK hI (a + 1) (by omega) (rfl) d1_reckon_136 (fun H locs hI => ?_)
                obtain ⟨x3, hx3⟩ : ∃ zz : kU, zz = kset x2 9 (a + 1) (nI (max ((mt_tm P (a + 1)).2.1 + 1) (mt_tm P a).2.2.2.1)) := ⟨_, rfl⟩
                rw [← hx3] at hI
                have hXx3 : x3 9 (a + 1) = nI (mt_rd P (mt_tm P) (a + 1) (max ((mt_tm P (a + 1)).2.1 + 1) (mt_tm P a).2.2.2.1) 0) := by rw [hx3]; exact kset_eq
                have hFx3 : x3 7 (a + 1) = nI (mt_tm P (a + 1)).1 := by rw [hx3, kset_ne (by decide)]; exact hFx2
                have hDx3 : x3 8 (a + 1) = nI (mt_tm P (a + 1)).2.1 := by rw [hx3, kset_ne (by decide)]; exact hDx2
                have hmx3 : mK P n (a + 1) u x3 := by rw [hx3]; exact mK_set hmx2 (by decide) (by decide)
                refine lv_iconst (v := nI 1) hx hb d1_reckon_137 (by decide) ?_
                refine lv_istore_n hx hb d1_reckon_138 rfl hl (by decide) rfl (fun ls hl => ?_)
                have hl : lv_has ls 4 [(3, .int (nI 1)), (2, .int (kb false)), (1, .int (nI (a + 1))), (0, .ref h)] := hl
                refine L1_reck2 l D cI cZ cG h ad u P n (a + 1) (max ((mt_tm P (a + 1)).2.1 + 1) (mt_tm P a).2.2.2.1) (kb false) (by omega) (by omega) hx hb hml hown hB hK hA hE hZ (fun ls H locs x4 hmx4 hFx4 hDx4 hX4 hl hI => ?_) 15 ls H locs 0 x3 rfl hmx3 hFx3 hDx3 hXx3 (lv_sub hl [0, 1, 2, 3] rfl) hI
                have hXx4 : x4 9 (a + 1) = nI (mt_tm P (a + 1)).2.2.1 := hX4.trans (congrArg nI (mt_X_rd P (a + 1)).symm)
                refine lv_aload_n hx hb d1_reckon_186 rfl (lv_at hl 3 rfl) ?_
                refine kM_g11 hx hb hB hown hK hI d1_reckon_187 ?_
                refine lv_iload_n hx hb d1_reckon_190 rfl (lv_at hl 2 rfl) ?_
                refine lv_aload_n hx hb d1_reckon_191 rfl (lv_at hl 3 rfl) ?_
                refine lv_iload_n hx hb d1_reckon_192 rfl (lv_at hl 2 rfl) ?_
                refine kcall_i (n := 1) (u := x4) (wf := kwM h ad cI cZ) (As := [.int (nI (a + 1))]) (b := h) (rest := [.int (nI (a + 1)), .ref (ad 10)]) hx hb hml hown hB hK hI hA hE hZ (C1_xe l D cI cZ cG h ad H.size x4 (a + 1) _ _ (by omega) hXx4 (hmx4.1.2.2 (a + 1) (by omega)).2.1 (hmx4.1.2.2 (a + 1) (by omega)).1.1) (kgV kw_368 kw_370 ks1_xe kw_2 kw_371) (by decide +kernel) ⟨Nat.le_of_ble_eq_true rfl, Nat.le_of_ble_eq_true rfl⟩ (va_recv (q0 := 0) (ci := 1) hK hI.1 rfl rfl) rfl hl.1 (Nat.le_of_ble_eq_true rfl) d1_reckon_193 ⟨Nat.le_of_ble_eq_true rfl, Nat.le_of_ble_eq_true rfl⟩ rfl (fun ra xa H locs hq hI => ?_)
                obtain ⟨hv, hxu⟩ := hq
                rw [hxu] at hI
                rw [hv]
                refine lv_iconst (v := nI 1) hx hb d1_reckon_196 (by decide) ?_
                refine k_iadd (v := nI (((mt_tm P (a + 1)).2.2.1 + mt_t (P (a + 1)) - 1) + 1)) hx hb (nI_add _ _) d1_reckon_197 ?_
                refine lv_iload_n hx hb d1_reckon_198 rfl (lv_at hl 1 rfl) ?_
                refine lv_if_eq (tgt := 206) hx hb d1_reckon_199 (by decide) (fun hc => ?_) (fun hc => ?_)
                · skip
                  refine lv_aload_n hx hb d1_reckon_206 rfl (lv_at hl 3 rfl) ?_
                  refine kM_g12 hx hb hB hown hK hI d1_reckon_207 ?_
                  refine lv_iload_n hx hb d1_reckon_210 rfl (lv_at hl 2 rfl) ?_
                  refine lv_iconst (v := nI 1) hx hb d1_reckon_211 (by decide) ?_
                  refine k_isub (v := nI a) hx hb (pk_sub (by omega)) d1_reckon_212 ?_
                  refine kM_l11 (v := nI (mt_tm P a).2.2.2.2) hx hb hK hI a (by omega) (rfl) ((hmx4.2.1 a (by omega)).2.2.2.2) d1_reckon_213 ?_
                  refine kcall_si (n := 2) (u := x4) (wf := kwM h ad cI cZ) (As := [.int (nI (((mt_tm P (a + 1)).2.2.1 + mt_t (P (a + 1)) - 1) + 1)), .int (nI (mt_tm P a).2.2.2.2)]) (rest := [.int (nI (a + 1)), .ref (ad 10)]) hx hb hml hown hB hK hI hA hE hZ (C1_more l D cI cZ cG h ad H.size x4 _ _ (by omega) (by omega)) (kgS kw_372 kw_373 kw_2 kw_374) (by decide +kernel) ⟨Nat.le_of_ble_eq_true rfl, Nat.le_of_ble_eq_true rfl⟩ rfl hl.1 (Nat.le_of_ble_eq_true rfl) d1_reckon_214 ⟨Nat.le_of_ble_eq_true rfl, Nat.le_of_ble_eq_true rfl⟩ rfl (fun ra xa H locs hq hI => ?_)
                  obtain ⟨hv, hxu⟩ := hq
                  rw [hxu] at hI
                  rw [hv]
                  refine kM_s10 hx hb hK hI (a + 1) (by omega) (rfl) d1_reckon_217 (fun H locs hI => ?_)
                  obtain ⟨x5, hx5⟩ : ∃ zz : kU, zz = kset x4 10 (a + 1) (nI (max ((mt_tm P (a + 1)).2.2.1 + mt_t (P (a + 1)) - 1 + 1) (mt_tm P a).2.2.2.2)) := ⟨_, rfl⟩
                  rw [← hx5] at hI
                  have hM5 : x5 10 (a + 1) = nI (max ((mt_tm P (a + 1)).2.2.1 + mt_t (P (a + 1)) - 1 + 1) (mt_tm P a).2.2.2.2) := by rw [hx5]; exact kset_eq
                  have hFx5 : x5 7 (a + 1) = nI (mt_tm P (a + 1)).1 := by rw [hx5, kset_ne (by decide)]; exact hFx4
                  have hDx5 : x5 8 (a + 1) = nI (mt_tm P (a + 1)).2.1 := by rw [hx5, kset_ne (by decide)]; exact hDx4
                  have hXx5 : x5 9 (a + 1) = nI (mt_tm P (a + 1)).2.2.1 := by rw [hx5, kset_ne (by decide)]; exact hXx4
                  have hmx5 : mK P n (a + 1) u x5 := by rw [hx5]; exact mK_set hmx4 (by decide) (by decide)
                  refine lv_aload_n hx hb d1_reckon_218 rfl (lv_at hl 3 rfl) ?_
                  refine kM_g4 hx hb hB hown hK hI d1_reckon_219 ?_
                  refine lv_iload_n hx hb d1_reckon_222 rfl (lv_at hl 2 rfl) ?_
                  refine kM_l3 (v := nI (mt_l (P (a + 1)))) hx hb hK hI (a + 1) (by omega) (rfl) ((hmx5.1.2.2 (a + 1) (by omega)).2.2.2.2.1) d1_reckon_223 ?_
                  refine lv_if_le (tgt := 253) hx hb d1_reckon_224 (by decide) (fun hc => ?_) (fun hc => ?_)
                  · skip
                    have hl0 : mt_l (P (a + 1)) = 0 := knI_le0 (by omega) hc
                    have hMe : (mt_tm P (a + 1)).2.2.2.1 = max ((mt_tm P (a + 1)).2.2.1 + mt_t (P (a + 1)) - 1 + 1) (mt_tm P a).2.2.2.2 := mt_M_0 hl0
                    obtain ⟨x6, hx6⟩ : ∃ z, z = x5 := ⟨_, rfl⟩
                    rw [← hx6] at hI hM5 hFx5 hDx5 hXx5 hmx5
                    have hMx6 : x6 10 (a + 1) = nI (mt_tm P (a + 1)).2.2.2.1 := hM5.trans (congrArg nI hMe.symm)
                    have hFx6 := hFx5
                    have hDx6 := hDx5
                    have hXx6 := hXx5
                    have hmx6 := hmx5
                    refine lv_aload_n hx hb d1_reckon_253 rfl (lv_at hl 3 rfl) ?_
                    refine kM_g12 hx hb hB hown hK hI d1_reckon_254 ?_
                    refine lv_iload_n hx hb d1_reckon_257 rfl (lv_at hl 2 rfl) ?_
                    refine lv_aload_n hx hb d1_reckon_258 rfl (lv_at hl 3 rfl) ?_
                    refine lv_iload_n hx hb d1_reckon_259 rfl (lv_at hl 2 rfl) ?_
                    refine kcall_i (n := 1) (u := x6) (wf := kwM h ad cI cZ) (As := [.int (nI (a + 1))]) (b := h) (rest := [.int (nI (a + 1)), .ref (ad 11)]) hx hb hml hown hB hK hI hA hE hZ (C1_me l D cI cZ cG h ad H.size x6 (a + 1) _ _ (by omega) hMx6 (hmx6.1.2.2 (a + 1) (by omega)).2.2.2.2.2.1) (kgV kw_383 kw_385 ks1_me kw_2 kw_386) (by decide +kernel) ⟨Nat.le_of_ble_eq_true rfl, Nat.le_of_ble_eq_true rfl⟩ (va_recv (q0 := 0) (ci := 1) hK hI.1 rfl rfl) rfl hl.1 (Nat.le_of_ble_eq_true rfl) d1_reckon_260 ⟨Nat.le_of_ble_eq_true rfl, Nat.le_of_ble_eq_true rfl⟩ rfl (fun ra xa H locs hq hI => ?_)
                    obtain ⟨hv, hxu⟩ := hq
                    rw [hxu] at hI
                    rw [hv]
                    refine lv_iconst (v := nI 1) hx hb d1_reckon_263 (by decide) ?_
                    refine k_iadd (v := nI (((mt_tm P (a + 1)).2.2.2.1 + mt_w (P (a + 1))) + 1)) hx hb (nI_add _ _) d1_reckon_264 ?_
                    refine kM_s11 hx hb hK hI (a + 1) (by omega) (rfl) d1_reckon_265 (fun H locs hI => ?_)
                    obtain ⟨x7, hx7⟩ : ∃ zz : kU, zz = kset x6 11 (a + 1) (nI (((mt_tm P (a + 1)).2.2.2.1 + mt_w (P (a + 1))) + 1)) := ⟨_, rfl⟩
                    rw [← hx7] at hI
                    have hWx7 : x7 11 (a + 1) = nI (mt_tm P (a + 1)).2.2.2.2 := (show x7 11 (a + 1) = nI _ by rw [hx7]; exact kset_eq).trans (congrArg nI (mt_W_eq P (a + 1)).symm)
                    have hFx7 : x7 7 (a + 1) = nI (mt_tm P (a + 1)).1 := by rw [hx7, kset_ne (by decide)]; exact hFx6
                    have hDx7 : x7 8 (a + 1) = nI (mt_tm P (a + 1)).2.1 := by rw [hx7, kset_ne (by decide)]; exact hDx6
                    have hXx7 : x7 9 (a + 1) = nI (mt_tm P (a + 1)).2.2.1 := by rw [hx7, kset_ne (by decide)]; exact hXx6
                    have hMx7 : x7 10 (a + 1) = nI (mt_tm P (a + 1)).2.2.2.1 := by rw [hx7, kset_ne (by decide)]; exact hMx6
                    have hmx7 : mK P n (a + 1) u x7 := by rw [hx7]; exact mK_set hmx6 (by decide) (by decide)
                    refine lv_aload_n hx hb d1_reckon_266 rfl (lv_at hl 3 rfl) ?_
                    refine lv_dup hx hb d1_reckon_267 rfl ?_
                    refine kM_g14 hx hb hB hown hK hI d1_reckon_268 ?_
                    rw [show x7 14 0 = nI (a + 1) from hmx7.2.2.1]
                    refine lv_iconst (v := nI 1) hx hb d1_reckon_271 (by decide) ?_
                    refine k_iadd (v := nI ((a + 1) + 1)) hx hb (nI_add _ _) d1_reckon_272 ?_
                    refine kM_p14 hx hb hB hown hK hI d1_reckon_273 (fun H locs hI => ?_)
                    obtain ⟨x8, hx8⟩ : ∃ zz : kU, zz = knum x7 14 (nI ((a + 1) + 1)) := ⟨_, rfl⟩
                    rw [← hx8] at hI
                    have hm8 : mK P n ((a + 1) + 1) u x8 := by rw [hx8]; exact mK_step hmx7 ⟨hFx7, hDx7, hXx7, hMx7, hWx7⟩
                    refine lv_goto (tgt := 0) hx hb d1_reckon_276 (by decide) ?_
                    exact ih ls H locs (a + 1 + 1) x8 (by omega) hm8 (lv_sub hl [3] rfl) hI
                  · skip
                    have hl0 : mt_l (P (a + 1)) ≠ 0 := fun q => hc (by rw [q, nI_0]; exact Int32.le_refl _)
                    refine lv_aload_n hx hb d1_reckon_227 rfl (lv_at hl 3 rfl) ?_
                    refine kM_g11 hx hb hB hown hK hI d1_reckon_228 ?_
                    refine lv_iload_n hx hb d1_reckon_231 rfl (lv_at hl 2 rfl) ?_
                    refine lv_aload_n hx hb d1_reckon_232 rfl (lv_at hl 3 rfl) ?_
                    refine kM_g11 hx hb hB hown hK hI d1_reckon_233 ?_
                    refine lv_iload_n hx hb d1_reckon_236 rfl (lv_at hl 2 rfl) ?_
                    refine kM_l10 (v := nI (max ((mt_tm P (a + 1)).2.2.1 + mt_t (P (a + 1)) - 1 + 1) (mt_tm P a).2.2.2.2)) hx hb hK hI (a + 1) (by omega) (rfl) (hM5) d1_reckon_237 ?_
                    refine lv_aload_n hx hb d1_reckon_238 rfl (lv_at hl 3 rfl) ?_
                    refine lv_iload_n hx hb d1_reckon_239 rfl (lv_at hl 2 rfl) ?_
                    refine lv_aload_n hx hb d1_reckon_240 rfl (lv_at hl 3 rfl) ?_
                    refine kM_g4 hx hb hB hown hK hI d1_reckon_241 ?_
                    refine lv_iload_n hx hb d1_reckon_244 rfl (lv_at hl 2 rfl) ?_
                    refine kM_l3 (v := nI (mt_l (P (a + 1)))) hx hb hK hI (a + 1) (by omega) (rfl) ((hmx5.1.2.2 (a + 1) (by omega)).2.2.2.2.1) d1_reckon_245 ?_
                    refine kcall_i (n := 2) (u := x5) (wf := kwM h ad cI cZ) (As := [.int (nI (a + 1)), .int (nI (mt_l (P (a + 1))))]) (b := h) (rest := [.int (nI (max ((mt_tm P (a + 1)).2.2.1 + mt_t (P (a + 1)) - 1 + 1) (mt_tm P a).2.2.2.2)), .int (nI (a + 1)), .ref (ad 10)]) hx hb hml hown hB hK hI hA hE hZ (C1_behind l D cI cZ cG h ad H.size x5 P n hmx5.1 (a + 1) (mt_l (P (a + 1))) (by omega) (by omega) hmx5.2.1) (kgV kw_375 kw_377 ks1_behind kw_2 kw_378) (by decide +kernel) ⟨Nat.le_of_ble_eq_true rfl, Nat.le_of_ble_eq_true rfl⟩ (va_recv (q0 := 0) (ci := 1) hK hI.1 rfl rfl) rfl hl.1 (Nat.le_of_ble_eq_true rfl) d1_reckon_246 ⟨Nat.le_of_ble_eq_true rfl, Nat.le_of_ble_eq_true rfl⟩ rfl (fun ra xa H locs hq hI => ?_)
                    obtain ⟨hv, hxu⟩ := hq
                    rw [hxu] at hI
                    rw [hv]
                    refine kcall_si (n := 2) (u := x5) (wf := kwM h ad cI cZ) (As := [.int (nI (max ((mt_tm P (a + 1)).2.2.1 + mt_t (P (a + 1)) - 1 + 1) (mt_tm P a).2.2.2.2)), .int (nI (mt_beh P (mt_tm P) (a + 1) (mt_l (P (a + 1)))))]) (rest := [.int (nI (a + 1)), .ref (ad 10)]) hx hb hml hown hB hK hI hA hE hZ (C1_more l D cI cZ cG h ad H.size x5 _ _ (by omega) (by omega)) (kgS kw_372 kw_373 kw_2 kw_374) (by decide +kernel) ⟨Nat.le_of_ble_eq_true rfl, Nat.le_of_ble_eq_true rfl⟩ rfl hl.1 (Nat.le_of_ble_eq_true rfl) d1_reckon_249 ⟨Nat.le_of_ble_eq_true rfl, Nat.le_of_ble_eq_true rfl⟩ rfl (fun ra xa H locs hq hI => ?_)
                    obtain ⟨hv, hxu⟩ := hq
                    rw [hxu] at hI
                    rw [hv]
                    refine kM_s10 hx hb hK hI (a + 1) (by omega) (rfl) d1_reckon_252 (fun H locs hI => ?_)
                    obtain ⟨x6, hx6⟩ : ∃ zz : kU, zz = kset x5 10 (a + 1) (nI (max (max ((mt_tm P (a + 1)).2.2.1 + mt_t (P (a + 1)) - 1 + 1) (mt_tm P a).2.2.2.2) (mt_beh P (mt_tm P) (a + 1) (mt_l (P (a + 1)))))) := ⟨_, rfl⟩
                    rw [← hx6] at hI
                    have hMx6 : x6 10 (a + 1) = nI (mt_tm P (a + 1)).2.2.2.1 := (show x6 10 (a + 1) = nI _ by rw [hx6]; exact kset_eq).trans (congrArg nI (mt_M_1 hl0).symm)
                    have hFx6 : x6 7 (a + 1) = nI (mt_tm P (a + 1)).1 := by rw [hx6, kset_ne (by decide)]; exact hFx5
                    have hDx6 : x6 8 (a + 1) = nI (mt_tm P (a + 1)).2.1 := by rw [hx6, kset_ne (by decide)]; exact hDx5
                    have hXx6 : x6 9 (a + 1) = nI (mt_tm P (a + 1)).2.2.1 := by rw [hx6, kset_ne (by decide)]; exact hXx5
                    have hmx6 : mK P n (a + 1) u x6 := by rw [hx6]; exact mK_set hmx5 (by decide) (by decide)
                    refine lv_aload_n hx hb d1_reckon_253 rfl (lv_at hl 3 rfl) ?_
                    refine kM_g12 hx hb hB hown hK hI d1_reckon_254 ?_
                    refine lv_iload_n hx hb d1_reckon_257 rfl (lv_at hl 2 rfl) ?_
                    refine lv_aload_n hx hb d1_reckon_258 rfl (lv_at hl 3 rfl) ?_
                    refine lv_iload_n hx hb d1_reckon_259 rfl (lv_at hl 2 rfl) ?_
                    refine kcall_i (n := 1) (u := x6) (wf := kwM h ad cI cZ) (As := [.int (nI (a + 1))]) (b := h) (rest := [.int (nI (a + 1)), .ref (ad 11)]) hx hb hml hown hB hK hI hA hE hZ (C1_me l D cI cZ cG h ad H.size x6 (a + 1) _ _ (by omega) hMx6 (hmx6.1.2.2 (a + 1) (by omega)).2.2.2.2.2.1) (kgV kw_383 kw_385 ks1_me kw_2 kw_386) (by decide +kernel) ⟨Nat.le_of_ble_eq_true rfl, Nat.le_of_ble_eq_true rfl⟩ (va_recv (q0 := 0) (ci := 1) hK hI.1 rfl rfl) rfl hl.1 (Nat.le_of_ble_eq_true rfl) d1_reckon_260 ⟨Nat.le_of_ble_eq_true rfl, Nat.le_of_ble_eq_true rfl⟩ rfl (fun ra xa H locs hq hI => ?_)
                    obtain ⟨hv, hxu⟩ := hq
                    rw [hxu] at hI
                    rw [hv]
                    refine lv_iconst (v := nI 1) hx hb d1_reckon_263 (by decide) ?_
                    refine k_iadd (v := nI (((mt_tm P (a + 1)).2.2.2.1 + mt_w (P (a + 1))) + 1)) hx hb (nI_add _ _) d1_reckon_264 ?_
                    refine kM_s11 hx hb hK hI (a + 1) (by omega) (rfl) d1_reckon_265 (fun H locs hI => ?_)
                    obtain ⟨x7, hx7⟩ : ∃ zz : kU, zz = kset x6 11 (a + 1) (nI (((mt_tm P (a + 1)).2.2.2.1 + mt_w (P (a + 1))) + 1)) := ⟨_, rfl⟩
                    rw [← hx7] at hI
                    have hWx7 : x7 11 (a + 1) = nI (mt_tm P (a + 1)).2.2.2.2 := (show x7 11 (a + 1) = nI _ by rw [hx7]; exact kset_eq).trans (congrArg nI (mt_W_eq P (a + 1)).symm)
                    have hFx7 : x7 7 (a + 1) = nI (mt_tm P (a + 1)).1 := by rw [hx7, kset_ne (by decide)]; exact hFx6
                    have hDx7 : x7 8 (a + 1) = nI (mt_tm P (a + 1)).2.1 := by rw [hx7, kset_ne (by decide)]; exact hDx6
                    have hXx7 : x7 9 (a + 1) = nI (mt_tm P (a + 1)).2.2.1 := by rw [hx7, kset_ne (by decide)]; exact hXx6
                    have hMx7 : x7 10 (a + 1) = nI (mt_tm P (a + 1)).2.2.2.1 := by rw [hx7, kset_ne (by decide)]; exact hMx6
                    have hmx7 : mK P n (a + 1) u x7 := by rw [hx7]; exact mK_set hmx6 (by decide) (by decide)
                    refine lv_aload_n hx hb d1_reckon_266 rfl (lv_at hl 3 rfl) ?_
                    refine lv_dup hx hb d1_reckon_267 rfl ?_
                    refine kM_g14 hx hb hB hown hK hI d1_reckon_268 ?_
                    rw [show x7 14 0 = nI (a + 1) from hmx7.2.2.1]
                    refine lv_iconst (v := nI 1) hx hb d1_reckon_271 (by decide) ?_
                    refine k_iadd (v := nI ((a + 1) + 1)) hx hb (nI_add _ _) d1_reckon_272 ?_
                    refine kM_p14 hx hb hB hown hK hI d1_reckon_273 (fun H locs hI => ?_)
                    obtain ⟨x8, hx8⟩ : ∃ zz : kU, zz = knum x7 14 (nI ((a + 1) + 1)) := ⟨_, rfl⟩
                    rw [← hx8] at hI
                    have hm8 : mK P n ((a + 1) + 1) u x8 := by rw [hx8]; exact mK_step hmx7 ⟨hFx7, hDx7, hXx7, hMx7, hWx7⟩
                    refine lv_goto (tgt := 0) hx hb d1_reckon_276 (by decide) ?_
                    exact ih ls H locs (a + 1 + 1) x8 (by omega) hm8 (lv_sub hl [3] rfl) hI
                · exact absurd rfl hc
              · exact absurd rfl hc
            · exact absurd rfl hc
        · exact absurd rfl hc
      · skip
        have e := knI_z (by omega) hc
        subst e
        have hFe := mt_F_0 P
        have hbd := mt_bound (P := P) (i := 0) (fun j hj => (hmk.1.2.2 j (by omega)).1)
        have hoki := (hmk.1.2.2 0 (by omega)).1
        unfold mt_ok at hoki
        have hb9 := mt_beh_le (P := P) (i := 0) (fun j hj => (hmk.1.2.2 j (by omega)).1) (mt_l (P 0))
        refine lv_iconst (v := kb true) hx hb d1_reckon_20 (by decide) ?_
        refine lv_goto (tgt := 25) hx hb d1_reckon_21 (by decide) ?_
        refine lv_istore_n hx hb d1_reckon_25 rfl hl (by decide) rfl (fun ls hl => ?_)
        have hl : lv_has ls 4 [(2, .int (kb true)), (1, .int (nI 0)), (0, .ref h)] := hl
        refine lv_aload_n hx hb d1_reckon_26 rfl (lv_at hl 2 rfl) ?_
        refine kM_g8 hx hb hB hown hK hI d1_reckon_27 ?_
        refine lv_iload_n hx hb d1_reckon_30 rfl (lv_at hl 1 rfl) ?_
        refine lv_iload_n hx hb d1_reckon_31 rfl (lv_at hl 0 rfl) ?_
        refine lv_if_eq (tgt := 39) hx hb d1_reckon_32 (by decide) (fun hc => ?_) (fun hc => ?_)
        · exact absurd hc (by decide)
        · skip
          refine lv_iconst (v := nI 1) hx hb d1_reckon_35 (by decide) ?_
          refine lv_goto (tgt := 70) hx hb d1_reckon_36 (by decide) ?_
          refine kM_s7 hx hb hK hI 0 (by omega) (rfl) d1_reckon_70 (fun H locs hI => ?_)
          obtain ⟨x1, hx1⟩ : ∃ zz : kU, zz = kset x 7 0 (nI 1) := ⟨_, rfl⟩
          rw [← hx1] at hI
          have hFx1 : x1 7 0 = nI (mt_tm P 0).1 := (show x1 7 0 = nI _ by rw [hx1]; exact kset_eq).trans (congrArg nI (hFe).symm)
          have hmx1 : mK P n 0 u x1 := by rw [hx1]; exact mK_set hmk (by decide) (by decide)
          refine lv_aload_n hx hb d1_reckon_71 rfl (lv_at hl 2 rfl) ?_
          refine kM_g9 hx hb hB hown hK hI d1_reckon_72 ?_
          refine lv_iload_n hx hb d1_reckon_75 rfl (lv_at hl 1 rfl) ?_
          refine lv_aload_n hx hb d1_reckon_76 rfl (lv_at hl 2 rfl) ?_
          refine kM_g8 hx hb hB hown hK hI d1_reckon_77 ?_
          refine lv_iload_n hx hb d1_reckon_80 rfl (lv_at hl 1 rfl) ?_
          refine kM_l7 (v := nI (mt_tm P 0).1) hx hb hK hI 0 (by omega) (rfl) (hFx1) d1_reckon_81 ?_
          refine lv_iconst (v := nI 1) hx hb d1_reckon_82 (by decide) ?_
          refine k_iadd (v := nI ((mt_tm P 0).1 + 1)) hx hb (nI_add _ _) d1_reckon_83 ?_
          refine lv_iload_n hx hb d1_reckon_84 rfl (lv_at hl 0 rfl) ?_
          refine lv_if_eq (tgt := 92) hx hb d1_reckon_85 (by decide) (fun hc => ?_) (fun hc => ?_)
          · exact absurd hc (by decide)
          · skip
            refine lv_iconst (v := nI 0) hx hb d1_reckon_88 (by decide) ?_
            refine lv_goto (tgt := 100) hx hb d1_reckon_89 (by decide) ?_
            refine kcall_si (n := 2) (u := x1) (wf := kwM h ad cI cZ) (As := [.int (nI ((mt_tm P 0).1 + 1)), .int (nI 0)]) (rest := [.int (nI 0), .ref (ad 8)]) hx hb hml hown hB hK hI hA hE hZ (C1_more l D cI cZ cG h ad H.size x1 _ _ (by omega) (by omega)) (kgS kw_372 kw_373 kw_2 kw_374) (by decide +kernel) ⟨Nat.le_of_ble_eq_true rfl, Nat.le_of_ble_eq_true rfl⟩ rfl hl.1 (Nat.le_of_ble_eq_true rfl) d1_reckon_100 ⟨Nat.le_of_ble_eq_true rfl, Nat.le_of_ble_eq_true rfl⟩ rfl (fun ra xa H locs hq hI => ?_)
            obtain ⟨hv, hxu⟩ := hq
            rw [hxu] at hI
            rw [hv]
            refine kM_s8 hx hb hK hI 0 (by omega) (rfl) d1_reckon_103 (fun H locs hI => ?_)
            obtain ⟨x2, hx2⟩ : ∃ zz : kU, zz = kset x1 8 0 (nI (max ((mt_tm P 0).1 + 1) 0)) := ⟨_, rfl⟩
            rw [← hx2] at hI
            have hDx2 : x2 8 0 = nI (mt_tm P 0).2.1 := (show x2 8 0 = nI _ by rw [hx2]; exact kset_eq).trans (congrArg nI (mt_D_eq P 0).symm)
            have hFx2 : x2 7 0 = nI (mt_tm P 0).1 := by rw [hx2, kset_ne (by decide)]; exact hFx1
            have hmx2 : mK P n 0 u x2 := by rw [hx2]; exact mK_set hmx1 (by decide) (by decide)
            refine lv_aload_n hx hb d1_reckon_104 rfl (lv_at hl 2 rfl) ?_
            refine kM_g10 hx hb hB hown hK hI d1_reckon_105 ?_
            refine lv_iload_n hx hb d1_reckon_108 rfl (lv_at hl 1 rfl) ?_
            refine lv_aload_n hx hb d1_reckon_109 rfl (lv_at hl 2 rfl) ?_
            refine kM_g9 hx hb hB hown hK hI d1_reckon_110 ?_
            refine lv_iload_n hx hb d1_reckon_113 rfl (lv_at hl 1 rfl) ?_
            refine kM_l8 (v := nI (mt_tm P 0).2.1) hx hb hK hI 0 (by omega) (rfl) (hDx2) d1_reckon_114 ?_
            refine lv_iconst (v := nI 1) hx hb d1_reckon_115 (by decide) ?_
            refine k_iadd (v := nI ((mt_tm P 0).2.1 + 1)) hx hb (nI_add _ _) d1_reckon_116 ?_
            refine lv_iload_n hx hb d1_reckon_117 rfl (lv_at hl 0 rfl) ?_
            refine lv_if_eq (tgt := 125) hx hb d1_reckon_118 (by decide) (fun hc => ?_) (fun hc => ?_)
            · exact absurd hc (by decide)
            · skip
              refine lv_iconst (v := nI 0) hx hb d1_reckon_121 (by decide) ?_
              refine lv_goto (tgt := 133) hx hb d1_reckon_122 (by decide) ?_
              refine kcall_si (n := 2) (u := x2) (wf := kwM h ad cI cZ) (As := [.int (nI ((mt_tm P 0).2.1 + 1)), .int (nI 0)]) (rest := [.int (nI 0), .ref (ad 9)]) hx hb hml hown hB hK hI hA hE hZ (C1_more l D cI cZ cG h ad H.size x2 _ _ (by omega) (by omega)) (kgS kw_372 kw_373 kw_2 kw_374) (by decide +kernel) ⟨Nat.le_of_ble_eq_true rfl, Nat.le_of_ble_eq_true rfl⟩ rfl hl.1 (Nat.le_of_ble_eq_true rfl) d1_reckon_133 ⟨Nat.le_of_ble_eq_true rfl, Nat.le_of_ble_eq_true rfl⟩ rfl (fun ra xa H locs hq hI => ?_)
              obtain ⟨hv, hxu⟩ := hq
              rw [hxu] at hI
              rw [hv]
              refine kM_s9 hx hb hK hI 0 (by omega) (rfl) d1_reckon_136 (fun H locs hI => ?_)
              obtain ⟨x3, hx3⟩ : ∃ zz : kU, zz = kset x2 9 0 (nI (max ((mt_tm P 0).2.1 + 1) 0)) := ⟨_, rfl⟩
              rw [← hx3] at hI
              have hXx3 : x3 9 0 = nI (mt_rd P (mt_tm P) 0 (max ((mt_tm P 0).2.1 + 1) 0) 0) := by rw [hx3]; exact kset_eq
              have hFx3 : x3 7 0 = nI (mt_tm P 0).1 := by rw [hx3, kset_ne (by decide)]; exact hFx2
              have hDx3 : x3 8 0 = nI (mt_tm P 0).2.1 := by rw [hx3, kset_ne (by decide)]; exact hDx2
              have hmx3 : mK P n 0 u x3 := by rw [hx3]; exact mK_set hmx2 (by decide) (by decide)
              refine lv_iconst (v := nI 1) hx hb d1_reckon_137 (by decide) ?_
              refine lv_istore_n hx hb d1_reckon_138 rfl hl (by decide) rfl (fun ls hl => ?_)
              have hl : lv_has ls 4 [(3, .int (nI 1)), (2, .int (kb true)), (1, .int (nI 0)), (0, .ref h)] := hl
              refine L1_reck2 l D cI cZ cG h ad u P n 0 (max ((mt_tm P 0).2.1 + 1) 0) (kb true) (by omega) (by omega) hx hb hml hown hB hK hA hE hZ (fun ls H locs x4 hmx4 hFx4 hDx4 hX4 hl hI => ?_) 15 ls H locs 0 x3 rfl hmx3 hFx3 hDx3 hXx3 (lv_sub hl [0, 1, 2, 3] rfl) hI
              have hXx4 : x4 9 0 = nI (mt_tm P 0).2.2.1 := hX4.trans (congrArg nI (mt_X_rd P 0).symm)
              refine lv_aload_n hx hb d1_reckon_186 rfl (lv_at hl 3 rfl) ?_
              refine kM_g11 hx hb hB hown hK hI d1_reckon_187 ?_
              refine lv_iload_n hx hb d1_reckon_190 rfl (lv_at hl 2 rfl) ?_
              refine lv_aload_n hx hb d1_reckon_191 rfl (lv_at hl 3 rfl) ?_
              refine lv_iload_n hx hb d1_reckon_192 rfl (lv_at hl 2 rfl) ?_
              refine kcall_i (n := 1) (u := x4) (wf := kwM h ad cI cZ) (As := [.int (nI 0)]) (b := h) (rest := [.int (nI 0), .ref (ad 10)]) hx hb hml hown hB hK hI hA hE hZ (C1_xe l D cI cZ cG h ad H.size x4 0 _ _ (by omega) hXx4 (hmx4.1.2.2 0 (by omega)).2.1 (hmx4.1.2.2 0 (by omega)).1.1) (kgV kw_368 kw_370 ks1_xe kw_2 kw_371) (by decide +kernel) ⟨Nat.le_of_ble_eq_true rfl, Nat.le_of_ble_eq_true rfl⟩ (va_recv (q0 := 0) (ci := 1) hK hI.1 rfl rfl) rfl hl.1 (Nat.le_of_ble_eq_true rfl) d1_reckon_193 ⟨Nat.le_of_ble_eq_true rfl, Nat.le_of_ble_eq_true rfl⟩ rfl (fun ra xa H locs hq hI => ?_)
              obtain ⟨hv, hxu⟩ := hq
              rw [hxu] at hI
              rw [hv]
              refine lv_iconst (v := nI 1) hx hb d1_reckon_196 (by decide) ?_
              refine k_iadd (v := nI (((mt_tm P 0).2.2.1 + mt_t (P 0) - 1) + 1)) hx hb (nI_add _ _) d1_reckon_197 ?_
              refine lv_iload_n hx hb d1_reckon_198 rfl (lv_at hl 1 rfl) ?_
              refine lv_if_eq (tgt := 206) hx hb d1_reckon_199 (by decide) (fun hc => ?_) (fun hc => ?_)
              · exact absurd hc (by decide)
              · skip
                refine lv_iconst (v := nI 0) hx hb d1_reckon_202 (by decide) ?_
                refine lv_goto (tgt := 214) hx hb d1_reckon_203 (by decide) ?_
                refine kcall_si (n := 2) (u := x4) (wf := kwM h ad cI cZ) (As := [.int (nI (((mt_tm P 0).2.2.1 + mt_t (P 0) - 1) + 1)), .int (nI 0)]) (rest := [.int (nI 0), .ref (ad 10)]) hx hb hml hown hB hK hI hA hE hZ (C1_more l D cI cZ cG h ad H.size x4 _ _ (by omega) (by omega)) (kgS kw_372 kw_373 kw_2 kw_374) (by decide +kernel) ⟨Nat.le_of_ble_eq_true rfl, Nat.le_of_ble_eq_true rfl⟩ rfl hl.1 (Nat.le_of_ble_eq_true rfl) d1_reckon_214 ⟨Nat.le_of_ble_eq_true rfl, Nat.le_of_ble_eq_true rfl⟩ rfl (fun ra xa H locs hq hI => ?_)
                obtain ⟨hv, hxu⟩ := hq
                rw [hxu] at hI
                rw [hv]
                refine kM_s10 hx hb hK hI 0 (by omega) (rfl) d1_reckon_217 (fun H locs hI => ?_)
                obtain ⟨x5, hx5⟩ : ∃ zz : kU, zz = kset x4 10 0 (nI (max ((mt_tm P 0).2.2.1 + mt_t (P 0) - 1 + 1) 0)) := ⟨_, rfl⟩
                rw [← hx5] at hI
                have hM5 : x5 10 0 = nI (max ((mt_tm P 0).2.2.1 + mt_t (P 0) - 1 + 1) 0) := by rw [hx5]; exact kset_eq
                have hFx5 : x5 7 0 = nI (mt_tm P 0).1 := by rw [hx5, kset_ne (by decide)]; exact hFx4
                have hDx5 : x5 8 0 = nI (mt_tm P 0).2.1 := by rw [hx5, kset_ne (by decide)]; exact hDx4
                have hXx5 : x5 9 0 = nI (mt_tm P 0).2.2.1 := by rw [hx5, kset_ne (by decide)]; exact hXx4
                have hmx5 : mK P n 0 u x5 := by rw [hx5]; exact mK_set hmx4 (by decide) (by decide)
                refine lv_aload_n hx hb d1_reckon_218 rfl (lv_at hl 3 rfl) ?_
                refine kM_g4 hx hb hB hown hK hI d1_reckon_219 ?_
                refine lv_iload_n hx hb d1_reckon_222 rfl (lv_at hl 2 rfl) ?_
                refine kM_l3 (v := nI (mt_l (P 0))) hx hb hK hI 0 (by omega) (rfl) ((hmx5.1.2.2 0 (by omega)).2.2.2.2.1) d1_reckon_223 ?_
                refine lv_if_le (tgt := 253) hx hb d1_reckon_224 (by decide) (fun hc => ?_) (fun hc => ?_)
                · skip
                  have hl0 : mt_l (P 0) = 0 := knI_le0 (by omega) hc
                  have hMe : (mt_tm P 0).2.2.2.1 = max ((mt_tm P 0).2.2.1 + mt_t (P 0) - 1 + 1) 0 := mt_M_0 hl0
                  obtain ⟨x6, hx6⟩ : ∃ z, z = x5 := ⟨_, rfl⟩
                  rw [← hx6] at hI hM5 hFx5 hDx5 hXx5 hmx5
                  have hMx6 : x6 10 0 = nI (mt_tm P 0).2.2.2.1 := hM5.trans (congrArg nI hMe.symm)
                  have hFx6 := hFx5
                  have hDx6 := hDx5
                  have hXx6 := hXx5
                  have hmx6 := hmx5
                  refine lv_aload_n hx hb d1_reckon_253 rfl (lv_at hl 3 rfl) ?_
                  refine kM_g12 hx hb hB hown hK hI d1_reckon_254 ?_
                  refine lv_iload_n hx hb d1_reckon_257 rfl (lv_at hl 2 rfl) ?_
                  refine lv_aload_n hx hb d1_reckon_258 rfl (lv_at hl 3 rfl) ?_
                  refine lv_iload_n hx hb d1_reckon_259 rfl (lv_at hl 2 rfl) ?_
                  refine kcall_i (n := 1) (u := x6) (wf := kwM h ad cI cZ) (As := [.int (nI 0)]) (b := h) (rest := [.int (nI 0), .ref (ad 11)]) hx hb hml hown hB hK hI hA hE hZ (C1_me l D cI cZ cG h ad H.size x6 0 _ _ (by omega) hMx6 (hmx6.1.2.2 0 (by omega)).2.2.2.2.2.1) (kgV kw_383 kw_385 ks1_me kw_2 kw_386) (by decide +kernel) ⟨Nat.le_of_ble_eq_true rfl, Nat.le_of_ble_eq_true rfl⟩ (va_recv (q0 := 0) (ci := 1) hK hI.1 rfl rfl) rfl hl.1 (Nat.le_of_ble_eq_true rfl) d1_reckon_260 ⟨Nat.le_of_ble_eq_true rfl, Nat.le_of_ble_eq_true rfl⟩ rfl (fun ra xa H locs hq hI => ?_)
                  obtain ⟨hv, hxu⟩ := hq
                  rw [hxu] at hI
                  rw [hv]
                  refine lv_iconst (v := nI 1) hx hb d1_reckon_263 (by decide) ?_
                  refine k_iadd (v := nI (((mt_tm P 0).2.2.2.1 + mt_w (P 0)) + 1)) hx hb (nI_add _ _) d1_reckon_264 ?_
                  refine kM_s11 hx hb hK hI 0 (by omega) (rfl) d1_reckon_265 (fun H locs hI => ?_)
                  obtain ⟨x7, hx7⟩ : ∃ zz : kU, zz = kset x6 11 0 (nI (((mt_tm P 0).2.2.2.1 + mt_w (P 0)) + 1)) := ⟨_, rfl⟩
                  rw [← hx7] at hI
                  have hWx7 : x7 11 0 = nI (mt_tm P 0).2.2.2.2 := (show x7 11 0 = nI _ by rw [hx7]; exact kset_eq).trans (congrArg nI (mt_W_eq P 0).symm)
                  have hFx7 : x7 7 0 = nI (mt_tm P 0).1 := by rw [hx7, kset_ne (by decide)]; exact hFx6
                  have hDx7 : x7 8 0 = nI (mt_tm P 0).2.1 := by rw [hx7, kset_ne (by decide)]; exact hDx6
                  have hXx7 : x7 9 0 = nI (mt_tm P 0).2.2.1 := by rw [hx7, kset_ne (by decide)]; exact hXx6
                  have hMx7 : x7 10 0 = nI (mt_tm P 0).2.2.2.1 := by rw [hx7, kset_ne (by decide)]; exact hMx6
                  have hmx7 : mK P n 0 u x7 := by rw [hx7]; exact mK_set hmx6 (by decide) (by decide)
                  refine lv_aload_n hx hb d1_reckon_266 rfl (lv_at hl 3 rfl) ?_
                  refine lv_dup hx hb d1_reckon_267 rfl ?_
                  refine kM_g14 hx hb hB hown hK hI d1_reckon_268 ?_
                  rw [show x7 14 0 = nI 0 from hmx7.2.2.1]
                  refine lv_iconst (v := nI 1) hx hb d1_reckon_271 (by decide) ?_
                  refine k_iadd (v := nI (0 + 1)) hx hb (nI_add _ _) d1_reckon_272 ?_
                  refine kM_p14 hx hb hB hown hK hI d1_reckon_273 (fun H locs hI => ?_)
                  obtain ⟨x8, hx8⟩ : ∃ zz : kU, zz = knum x7 14 (nI (0 + 1)) := ⟨_, rfl⟩
                  rw [← hx8] at hI
                  have hm8 : mK P n (0 + 1) u x8 := by rw [hx8]; exact mK_step hmx7 ⟨hFx7, hDx7, hXx7, hMx7, hWx7⟩
                  refine lv_goto (tgt := 0) hx hb d1_reckon_276 (by decide) ?_
                  exact ih ls H locs (0 + 1) x8 (by omega) hm8 (lv_sub hl [3] rfl) hI
                · skip
                  have hl0 : mt_l (P 0) ≠ 0 := fun q => hc (by rw [q, nI_0]; exact Int32.le_refl _)
                  refine lv_aload_n hx hb d1_reckon_227 rfl (lv_at hl 3 rfl) ?_
                  refine kM_g11 hx hb hB hown hK hI d1_reckon_228 ?_
                  refine lv_iload_n hx hb d1_reckon_231 rfl (lv_at hl 2 rfl) ?_
                  refine lv_aload_n hx hb d1_reckon_232 rfl (lv_at hl 3 rfl) ?_
                  refine kM_g11 hx hb hB hown hK hI d1_reckon_233 ?_
                  refine lv_iload_n hx hb d1_reckon_236 rfl (lv_at hl 2 rfl) ?_
                  refine kM_l10 (v := nI (max ((mt_tm P 0).2.2.1 + mt_t (P 0) - 1 + 1) 0)) hx hb hK hI 0 (by omega) (rfl) (hM5) d1_reckon_237 ?_
                  refine lv_aload_n hx hb d1_reckon_238 rfl (lv_at hl 3 rfl) ?_
                  refine lv_iload_n hx hb d1_reckon_239 rfl (lv_at hl 2 rfl) ?_
                  refine lv_aload_n hx hb d1_reckon_240 rfl (lv_at hl 3 rfl) ?_
                  refine kM_g4 hx hb hB hown hK hI d1_reckon_241 ?_
                  refine lv_iload_n hx hb d1_reckon_244 rfl (lv_at hl 2 rfl) ?_
                  refine kM_l3 (v := nI (mt_l (P 0))) hx hb hK hI 0 (by omega) (rfl) ((hmx5.1.2.2 0 (by omega)).2.2.2.2.1) d1_reckon_245 ?_
                  refine kcall_i (n := 2) (u := x5) (wf := kwM h ad cI cZ) (As := [.int (nI 0), .int (nI (mt_l (P 0)))]) (b := h) (rest := [.int (nI (max ((mt_tm P 0).2.2.1 + mt_t (P 0) - 1 + 1) 0)), .int (nI 0), .ref (ad 10)]) hx hb hml hown hB hK hI hA hE hZ (C1_behind l D cI cZ cG h ad H.size x5 P n hmx5.1 0 (mt_l (P 0)) (by omega) (by omega) hmx5.2.1) (kgV kw_375 kw_377 ks1_behind kw_2 kw_378) (by decide +kernel) ⟨Nat.le_of_ble_eq_true rfl, Nat.le_of_ble_eq_true rfl⟩ (va_recv (q0 := 0) (ci := 1) hK hI.1 rfl rfl) rfl hl.1 (Nat.le_of_ble_eq_true rfl) d1_reckon_246 ⟨Nat.le_of_ble_eq_true rfl, Nat.le_of_ble_eq_true rfl⟩ rfl (fun ra xa H locs hq hI => ?_)
                  obtain ⟨hv, hxu⟩ := hq
                  rw [hxu] at hI
                  rw [hv]
                  refine kcall_si (n := 2) (u := x5) (wf := kwM h ad cI cZ) (As := [.int (nI (max ((mt_tm P 0).2.2.1 + mt_t (P 0) - 1 + 1) 0)), .int (nI (mt_beh P (mt_tm P) 0 (mt_l (P 0))))]) (rest := [.int (nI 0), .ref (ad 10)]) hx hb hml hown hB hK hI hA hE hZ (C1_more l D cI cZ cG h ad H.size x5 _ _ (by omega) (by omega)) (kgS kw_372 kw_373 kw_2 kw_374) (by decide +kernel) ⟨Nat.le_of_ble_eq_true rfl, Nat.le_of_ble_eq_true rfl⟩ rfl hl.1 (Nat.le_of_ble_eq_true rfl) d1_reckon_249 ⟨Nat.le_of_ble_eq_true rfl, Nat.le_of_ble_eq_true rfl⟩ rfl (fun ra xa H locs hq hI => ?_)
                  obtain ⟨hv, hxu⟩ := hq
                  rw [hxu] at hI
                  rw [hv]
                  refine kM_s10 hx hb hK hI 0 (by omega) (rfl) d1_reckon_252 (fun H locs hI => ?_)
                  obtain ⟨x6, hx6⟩ : ∃ zz : kU, zz = kset x5 10 0 (nI (max (max ((mt_tm P 0).2.2.1 + mt_t (P 0) - 1 + 1) 0) (mt_beh P (mt_tm P) 0 (mt_l (P 0))))) := ⟨_, rfl⟩
                  rw [← hx6] at hI
                  have hMx6 : x6 10 0 = nI (mt_tm P 0).2.2.2.1 := (show x6 10 0 = nI _ by rw [hx6]; exact kset_eq).trans (congrArg nI (mt_M_1 hl0).symm)
                  have hFx6 : x6 7 0 = nI (mt_tm P 0).1 := by rw [hx6, kset_ne (by decide)]; exact hFx5
                  have hDx6 : x6 8 0 = nI (mt_tm P 0).2.1 := by rw [hx6, kset_ne (by decide)]; exact hDx5
                  have hXx6 : x6 9 0 = nI (mt_tm P 0).2.2.1 := by rw [hx6, kset_ne (by decide)]; exact hXx5
                  have hmx6 : mK P n 0 u x6 := by rw [hx6]; exact mK_set hmx5 (by decide) (by decide)
                  refine lv_aload_n hx hb d1_reckon_253 rfl (lv_at hl 3 rfl) ?_
                  refine kM_g12 hx hb hB hown hK hI d1_reckon_254 ?_
                  refine lv_iload_n hx hb d1_reckon_257 rfl (lv_at hl 2 rfl) ?_
                  refine lv_aload_n hx hb d1_reckon_258 rfl (lv_at hl 3 rfl) ?_
                  refine lv_iload_n hx hb d1_reckon_259 rfl (lv_at hl 2 rfl) ?_
                  refine kcall_i (n := 1) (u := x6) (wf := kwM h ad cI cZ) (As := [.int (nI 0)]) (b := h) (rest := [.int (nI 0), .ref (ad 11)]) hx hb hml hown hB hK hI hA hE hZ (C1_me l D cI cZ cG h ad H.size x6 0 _ _ (by omega) hMx6 (hmx6.1.2.2 0 (by omega)).2.2.2.2.2.1) (kgV kw_383 kw_385 ks1_me kw_2 kw_386) (by decide +kernel) ⟨Nat.le_of_ble_eq_true rfl, Nat.le_of_ble_eq_true rfl⟩ (va_recv (q0 := 0) (ci := 1) hK hI.1 rfl rfl) rfl hl.1 (Nat.le_of_ble_eq_true rfl) d1_reckon_260 ⟨Nat.le_of_ble_eq_true rfl, Nat.le_of_ble_eq_true rfl⟩ rfl (fun ra xa H locs hq hI => ?_)
                  obtain ⟨hv, hxu⟩ := hq
                  rw [hxu] at hI
                  rw [hv]
                  refine lv_iconst (v := nI 1) hx hb d1_reckon_263 (by decide) ?_
                  refine k_iadd (v := nI (((mt_tm P 0).2.2.2.1 + mt_w (P 0)) + 1)) hx hb (nI_add _ _) d1_reckon_264 ?_
                  refine kM_s11 hx hb hK hI 0 (by omega) (rfl) d1_reckon_265 (fun H locs hI => ?_)
                  obtain ⟨x7, hx7⟩ : ∃ zz : kU, zz = kset x6 11 0 (nI (((mt_tm P 0).2.2.2.1 + mt_w (P 0)) + 1)) := ⟨_, rfl⟩
                  rw [← hx7] at hI
                  have hWx7 : x7 11 0 = nI (mt_tm P 0).2.2.2.2 := (show x7 11 0 = nI _ by rw [hx7]; exact kset_eq).trans (congrArg nI (mt_W_eq P 0).symm)
                  have hFx7 : x7 7 0 = nI (mt_tm P 0).1 := by rw [hx7, kset_ne (by decide)]; exact hFx6
                  have hDx7 : x7 8 0 = nI (mt_tm P 0).2.1 := by rw [hx7, kset_ne (by decide)]; exact hDx6
                  have hXx7 : x7 9 0 = nI (mt_tm P 0).2.2.1 := by rw [hx7, kset_ne (by decide)]; exact hXx6
                  have hMx7 : x7 10 0 = nI (mt_tm P 0).2.2.2.1 := by rw [hx7, kset_ne (by decide)]; exact hMx6
                  have hmx7 : mK P n 0 u x7 := by rw [hx7]; exact mK_set hmx6 (by decide) (by decide)
                  refine lv_aload_n hx hb d1_reckon_266 rfl (lv_at hl 3 rfl) ?_
                  refine lv_dup hx hb d1_reckon_267 rfl ?_
                  refine kM_g14 hx hb hB hown hK hI d1_reckon_268 ?_
                  rw [show x7 14 0 = nI 0 from hmx7.2.2.1]
                  refine lv_iconst (v := nI 1) hx hb d1_reckon_271 (by decide) ?_
                  refine k_iadd (v := nI (0 + 1)) hx hb (nI_add _ _) d1_reckon_272 ?_
                  refine kM_p14 hx hb hB hown hK hI d1_reckon_273 (fun H locs hI => ?_)
                  obtain ⟨x8, hx8⟩ : ∃ zz : kU, zz = knum x7 14 (nI (0 + 1)) := ⟨_, rfl⟩
                  rw [← hx8] at hI
                  have hm8 : mK P n (0 + 1) u x8 := by rw [hx8]; exact mK_step hmx7 ⟨hFx7, hDx7, hXx7, hMx7, hWx7⟩
                  refine lv_goto (tgt := 0) hx hb d1_reckon_276 (by decide) ?_
                  exact ih ls H locs (0 + 1) x8 (by omega) hm8 (lv_sub hl [3] rfl) hI
set_option maxHeartbeats 4000000 in
set_option maxRecDepth 100000 in
theorem C1_reckon (l : Launch) (D : va_G) (cI cZ cG : ClassId) (h : Nat) (ad : Nat → Nat) (sz : Nat) (u : kU) (P : Nat → kIns) (n : Nat) (hst : mSt P n u)  : kMv l D (kty cI cZ cG) y1_reckon (.code y1_reckon c1_reckon 4 none) ({ frames := 2, cells := 0, slots := 0, locals := 60 }) [.ref h] (kwM h ad cI cZ) u sz (fun x => mAll P n x ∧ x 12 = u 12) := by
  refine Met.ofW (cc := c1_reckon) (maxL := 4) (ret := none) (by decide) rfl ?_
  intro p e s m args below meth c s₁ B hml hv
  obtain ⟨rfl, hsz, hP, hK, hD0, hE, hZ⟩ := hv
  have hx := B.exec
  have hb := B.bytes
  have hr := B.returns
  have hts := atoms_spec (ws := Cond.code y1_reckon c1_reckon 4 none :: kBIG) B.pre
  have hB : ∀ w ∈ kBIG, w.before _ s = true := fun w q => hts w (List.mem_cons_of_mem _ q)
  have hown : s.vm.findClass "StageClockModel" = some m.cls := findClass_of_methodNamed B.named
  have hlocks := B.notSynchronized
  subst hsz
  have hD := hD0.self (sz := s.heap.size)
  generalize hAe : va_A (kwM h ad cI cZ u) s.heap.size = A at hD hZ ⊢
  have hA : ∀ q : Nat, s.heap.size ≤ q → A q := fun q h => by rw [← hAe]; exact Or.inr h
  have hI : kI D A s.heap (kwM h ad cI cZ u) s.heap [] := ⟨hP, hD, va_S.rf⟩
  have hl := lv_entry ([.ref h]) (n := 4) (Nat.le_of_ble_eq_true rfl)
  rw [lg_entry_eq]
  generalize (lg_sl ([.ref h]) ++ List.replicate (4 - (lg_sl ([.ref h])).length) Slot.unset).toArray = ls at hl ⊢
  have hl : lv_has ls 4 [(0, .ref h)] := hl
  obtain ⟨hin, kn, hkn, hk14, hrw⟩ := hst
  refine L1_reckon l D cI cZ cG h ad u P n hx hb hml hown hB hK hA hE hZ (fun ls H locs x hmk hl hI => ?_) (n - kn) ls _ _ kn u (by omega) ⟨hin, hrw, hk14, rfl⟩ hl hI
  exact kret_v (x := x) (wf := kwM h ad cI cZ) hx hb hr hlocks hK hI (⟨⟨hmk.1, hmk.2.2.1, hmk.2.1⟩, hmk.2.2.2⟩) d1_reckon_279
