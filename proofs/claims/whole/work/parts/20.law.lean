set_option maxHeartbeats 8000000 in
set_option maxRecDepth 100000 in
theorem L_law {p : Program} {e : Env} {s : State} {m : MethodId} {below : List Frame} {meth : Method} {c : Code} (l : Launch) (hl0 : l.stackTraces = false) {b L : Nat} {xs : Nat → Int32} (hL : L ≤ 4608) (C0 : lw_At p s m meth c b L xs) (D : va_G) (cI cZ cG cJ : ClassId) (h h2 o : Nat) (ad ad2 : Nat → Nat) (hK : va_K D kcl (ktz cI cZ cG cJ) s) (hE : kE s) (hZ : kZ (fun q => s.heap.size ≤ q) s s.heap)
    : ∀ (d : Nat) (ls : Array Slot) (H : Heap) (locs : List Loc) (k : Nat) (u v : kU) (P : Nat → kIns) (n : Nat) (hd : L < 9 * k + 9 * (d + 1)) (hk0 : 9 * k ≤ L) (hst : kSt P n u) (hsm : mSt P n v), lv_has ls 7 [(4, .int (nI (9 * k))), (3, .ref o), (2, .ref h2), (1, .ref h), (0, .ref b)] → kI D (fun q => s.heap.size ≤ q) s.heap (kwO h ad cI cZ cG cJ o u ++ kwM h2 ad2 cI cZ v) H locs → W p l e room_1 s m #[Value.ref b] below meth c H locs (100 + 2 * k) (10000 + 12 * k) (lw_Z below #[Value.ref b] s) (F0 m 23 ls []) := by
  obtain ⟨hx, hb, hr, hml, hown, hts, hX, hbl, hlocks, hgv⟩ := C0
  have hB : ∀ w ∈ kBIG, w.before #[Value.ref b] s = true := fun w q => hts w (List.mem_filter.mp q).1
  have hbA : ¬ (fun q => s.heap.size ≤ q) b := fun q => absurd hbl (Nat.not_lt.mpr q)
  have hA : ∀ q : Nat, s.heap.size ≤ q → (fun q => s.heap.size ≤ q) q := fun q h => h
  have hown : s.vm.findClass "StageClockLaw" = some m.cls := hown
  have hb : c.code = cL_law := hb
  intro d
  induction d with
  | zero =>
    intro ls H locs k u v P n hd hk0 hst hsm hl hI
    refine lv_iload hx hb dL_law_23 (lv_at hl 0 rfl) ?_
    refine lv_aload_n hx hb dL_law_25 rfl (lv_at hl 4 rfl) ?_
    refine kL_len hx hb hX hbl hbA hI dL_law_26 ?_
    refine lv_bipush (v := nI 9) hx hb dL_law_27 (by decide) ?_
    refine k_isub (v := nI L - nI 9) hx hb rfl dL_law_29 ?_
    refine lv_icmp_gt (tgt := 788) hx hb dL_law_30 (by decide) (fun hc => ?_) (fun hc => ?_)
    · refine va_forget (fun q hq => hI.2.2.2.2 q hq) ?_
      refine W.widen (k := 601024) (n := 7293034) (by omega) (by omega) ?_
      refine lv_iconst (v := 1) hx hb dL_law_788 (by decide) ?_
      exact lw_ret hx hb hr hlocks dL_law_789
    · exact absurd (klaw2 (by omega) (by omega) (by omega)) hc
  | succ d ih =>
    intro ls H locs k u v P n hd hk0 hst hsm hl hI
    have hn := hst.1.2.1
    refine lv_iload hx hb dL_law_23 (lv_at hl 0 rfl) ?_
    refine lv_aload_n hx hb dL_law_25 rfl (lv_at hl 4 rfl) ?_
    refine kL_len hx hb hX hbl hbA hI dL_law_26 ?_
    refine lv_bipush (v := nI 9) hx hb dL_law_27 (by decide) ?_
    refine k_isub (v := nI L - nI 9) hx hb rfl dL_law_29 ?_
    refine lv_icmp_gt (tgt := 788) hx hb dL_law_30 (by decide) (fun hc => ?_) (fun hc => ?_)
    · refine va_forget (fun q hq => hI.2.2.2.2 q hq) ?_
      refine W.widen (k := 601024) (n := 7293034) (by omega) (by omega) ?_
      refine lv_iconst (v := 1) hx hb dL_law_788 (by decide) ?_
      exact lw_ret hx hb hr hlocks dL_law_789
    · have hk9 := klaw (by omega) (by omega) hc
      refine lv_aload_n hx hb dL_law_33 rfl (lv_at hl 4 rfl) ?_
      refine lv_iload hx hb dL_law_34 (lv_at hl 0 rfl) ?_
      refine kL_ld hx hb hX hbl hbA hI (9 * k) (by omega) (by omega) rfl dL_law_36 ?_
      refine lv_bipush (v := nI 7) hx hb dL_law_37 (by decide) ?_
      obtain ⟨j, hj, hje⟩ := pk_andE (xs (9 * k)) (m := nI 7) 3 (by decide)
      refine k_iand (v := nI j) hx hb hje dL_law_39 ?_
      rcases (show j = 0 ∨ j = 1 ∨ j = 2 ∨ j = 3 ∨ j = 4 ∨ j = 5 ∨ j = 6 ∨ j = 7 by omega) with rfl | rfl | rfl | rfl | rfl | rfl | rfl | rfl
      · refine lv_tableIn (off := 48) (tgt := 88) hx hb dL_law_40 (by decide) (by decide) rfl (by decide) ?_
        refine lv_aload_n hx hb dL_law_88 rfl (lv_at hl 3 rfl) ?_
        refine lv_aload_n hx hb dL_law_89 rfl (lv_at hl 4 rfl) ?_
        refine lv_iload hx hb dL_law_90 (lv_at hl 0 rfl) ?_
        refine lv_iconst (v := nI 1) hx hb dL_law_92 (by decide) ?_
        refine k_iadd (v := nI (9 * k + 1)) hx hb (nI_add _ _) dL_law_93 ?_
        refine kL_ld hx hb hX hbl hbA hI (9 * k + 1) (by omega) (by omega) rfl dL_law_94 ?_
        refine lv_aload_n hx hb dL_law_95 rfl (lv_at hl 4 rfl) ?_
        refine lv_iload hx hb dL_law_96 (lv_at hl 0 rfl) ?_
        refine lv_iconst (v := nI 2) hx hb dL_law_98 (by decide) ?_
        refine k_iadd (v := nI (9 * k + 2)) hx hb (nI_add _ _) dL_law_99 ?_
        refine kL_ld hx hb hX hbl hbA hI (9 * k + 2) (by omega) (by omega) rfl dL_law_100 ?_
        refine lv_aload_n hx hb dL_law_101 rfl (lv_at hl 4 rfl) ?_
        refine lv_iload hx hb dL_law_102 (lv_at hl 0 rfl) ?_
        refine lv_iconst (v := nI 3) hx hb dL_law_104 (by decide) ?_
        refine k_iadd (v := nI (9 * k + 3)) hx hb (nI_add _ _) dL_law_105 ?_
        refine kL_ld hx hb hX hbl hbA hI (9 * k + 3) (by omega) (by omega) rfl dL_law_106 ?_
        refine lv_aload_n hx hb dL_law_107 rfl (lv_at hl 4 rfl) ?_
        refine lv_iload hx hb dL_law_108 (lv_at hl 0 rfl) ?_
        refine lv_iconst (v := nI 4) hx hb dL_law_110 (by decide) ?_
        refine k_iadd (v := nI (9 * k + 4)) hx hb (nI_add _ _) dL_law_111 ?_
        refine kL_ld hx hb hX hbl hbA hI (9 * k + 4) (by omega) (by omega) rfl dL_law_112 ?_
        refine lv_aload_n hx hb dL_law_113 rfl (lv_at hl 4 rfl) ?_
        refine lv_iload hx hb dL_law_114 (lv_at hl 0 rfl) ?_
        refine lv_iconst (v := nI 5) hx hb dL_law_116 (by decide) ?_
        refine k_iadd (v := nI (9 * k + 5)) hx hb (nI_add _ _) dL_law_117 ?_
        refine kL_ld hx hb hX hbl hbA hI (9 * k + 5) (by omega) (by omega) rfl dL_law_118 ?_
        refine k_bool hx hb dL_law_119 dL_law_122 dL_law_123 dL_law_126 ?_
        refine lv_aload_n hx hb dL_law_127 rfl (lv_at hl 4 rfl) ?_
        refine lv_iload hx hb dL_law_128 (lv_at hl 0 rfl) ?_
        refine lv_bipush (v := nI 6) hx hb dL_law_130 (by decide) ?_
        refine k_iadd (v := nI (9 * k + 6)) hx hb (nI_add _ _) dL_law_132 ?_
        refine kL_ld hx hb hX hbl hbA hI (9 * k + 6) (by omega) (by omega) rfl dL_law_133 ?_
        refine lv_aload_n hx hb dL_law_134 rfl (lv_at hl 4 rfl) ?_
        refine lv_iload hx hb dL_law_135 (lv_at hl 0 rfl) ?_
        refine lv_bipush (v := nI 7) hx hb dL_law_137 (by decide) ?_
        refine k_iadd (v := nI (9 * k + 7)) hx hb (nI_add _ _) dL_law_139 ?_
        refine kL_ld hx hb hX hbl hbA hI (9 * k + 7) (by omega) (by omega) rfl dL_law_140 ?_
        refine k_bool hx hb dL_law_141 dL_law_144 dL_law_145 dL_law_148 ?_
        refine lv_aload_n hx hb dL_law_149 rfl (lv_at hl 1 rfl) ?_
        refine kcall_l (n := 9) (u := u) (wf := kwO h ad cI cZ cG cJ o) (rw_ := kwM h2 ad2 cI cZ v) (As := [.ref h, .int (xs (9 * k + 1)), .int (xs (9 * k + 2)), .int (xs (9 * k + 3)), .int (xs (9 * k + 4)), .int (kb (decide (xs (9 * k + 5) ≠ 0))), .int (xs (9 * k + 6)), .int (kb (decide (xs (9 * k + 7) ≠ 0))), .ref o]) (rest := []) hx hb hml hown hB hK hI hA hE hZ (CL_add l hl0 D cI cZ cG cJ h ad o H.size u P n hst (xs (9 * k + 1)) (xs (9 * k + 2)) (xs (9 * k + 3)) (xs (9 * k + 4)) (decide (xs (9 * k + 5) ≠ 0)) (xs (9 * k + 6)) (decide (xs (9 * k + 7) ≠ 0))) (kgS kw_54 kw_55 kw_0 kw_56) (by decide +kernel) ⟨Nat.le_of_ble_eq_true rfl, Nat.le_of_ble_eq_true rfl⟩ rfl hl.1 (Nat.le_of_ble_eq_true rfl) dL_law_150 ⟨show 100 + 2 * k + 2 ≤ 601024 by omega, show 10000 + 12 * k + 12 ≤ 7293034 by omega⟩ rfl (fun ra xa H locs hq hI => ?_)
        obtain ⟨c1, P2, n2, hrc, ho, hs2⟩ := hq
        rw [hrc]
        refine lv_istore hx hb dL_law_153 hl (by decide) rfl (fun ls hl => ?_)
        have hl : lv_has ls 7 [(5, .int (nI c1)), (4, .int (nI (9 * k))), (3, .ref o), (2, .ref h2), (1, .ref h), (0, .ref b)] := hl
        refine lv_aload_n hx hb dL_law_155 rfl (lv_at hl 3 rfl) ?_
        refine lv_aload_n hx hb dL_law_156 rfl (lv_at hl 5 rfl) ?_
        refine lv_iload hx hb dL_law_157 (lv_at hl 1 rfl) ?_
        refine lv_iconst (v := nI 1) hx hb dL_law_159 (by decide) ?_
        refine k_iadd (v := nI (9 * k + 1)) hx hb (nI_add _ _) dL_law_160 ?_
        refine kL_ld hx hb hX hbl hbA hI (9 * k + 1) (by omega) (by omega) rfl dL_law_161 ?_
        refine lv_aload_n hx hb dL_law_162 rfl (lv_at hl 5 rfl) ?_
        refine lv_iload hx hb dL_law_163 (lv_at hl 1 rfl) ?_
        refine lv_iconst (v := nI 2) hx hb dL_law_165 (by decide) ?_
        refine k_iadd (v := nI (9 * k + 2)) hx hb (nI_add _ _) dL_law_166 ?_
        refine kL_ld hx hb hX hbl hbA hI (9 * k + 2) (by omega) (by omega) rfl dL_law_167 ?_
        refine lv_aload_n hx hb dL_law_168 rfl (lv_at hl 5 rfl) ?_
        refine lv_iload hx hb dL_law_169 (lv_at hl 1 rfl) ?_
        refine lv_iconst (v := nI 3) hx hb dL_law_171 (by decide) ?_
        refine k_iadd (v := nI (9 * k + 3)) hx hb (nI_add _ _) dL_law_172 ?_
        refine kL_ld hx hb hX hbl hbA hI (9 * k + 3) (by omega) (by omega) rfl dL_law_173 ?_
        refine lv_aload_n hx hb dL_law_174 rfl (lv_at hl 5 rfl) ?_
        refine lv_iload hx hb dL_law_175 (lv_at hl 1 rfl) ?_
        refine lv_iconst (v := nI 4) hx hb dL_law_177 (by decide) ?_
        refine k_iadd (v := nI (9 * k + 4)) hx hb (nI_add _ _) dL_law_178 ?_
        refine kL_ld hx hb hX hbl hbA hI (9 * k + 4) (by omega) (by omega) rfl dL_law_179 ?_
        refine lv_aload_n hx hb dL_law_180 rfl (lv_at hl 5 rfl) ?_
        refine lv_iload hx hb dL_law_181 (lv_at hl 1 rfl) ?_
        refine lv_iconst (v := nI 5) hx hb dL_law_183 (by decide) ?_
        refine k_iadd (v := nI (9 * k + 5)) hx hb (nI_add _ _) dL_law_184 ?_
        refine kL_ld hx hb hX hbl hbA hI (9 * k + 5) (by omega) (by omega) rfl dL_law_185 ?_
        refine k_bool hx hb dL_law_186 dL_law_189 dL_law_190 dL_law_193 ?_
        refine lv_aload_n hx hb dL_law_194 rfl (lv_at hl 5 rfl) ?_
        refine lv_iload hx hb dL_law_195 (lv_at hl 1 rfl) ?_
        refine lv_bipush (v := nI 6) hx hb dL_law_197 (by decide) ?_
        refine k_iadd (v := nI (9 * k + 6)) hx hb (nI_add _ _) dL_law_199 ?_
        refine kL_ld hx hb hX hbl hbA hI (9 * k + 6) (by omega) (by omega) rfl dL_law_200 ?_
        refine lv_aload_n hx hb dL_law_201 rfl (lv_at hl 5 rfl) ?_
        refine lv_iload hx hb dL_law_202 (lv_at hl 1 rfl) ?_
        refine lv_bipush (v := nI 7) hx hb dL_law_204 (by decide) ?_
        refine k_iadd (v := nI (9 * k + 7)) hx hb (nI_add _ _) dL_law_206 ?_
        refine kL_ld hx hb hX hbl hbA hI (9 * k + 7) (by omega) (by omega) rfl dL_law_207 ?_
        refine k_bool hx hb dL_law_208 dL_law_211 dL_law_212 dL_law_215 ?_
        refine kcall_fi (n := 7) (u := v) (wf := kwM h2 ad2 cI cZ) (rw_ := kwO h ad cI cZ cG cJ o xa) (As := [.int (xs (9 * k + 1)), .int (xs (9 * k + 2)), .int (xs (9 * k + 3)), .int (xs (9 * k + 4)), .int (kb (decide (xs (9 * k + 5) ≠ 0))), .int (xs (9 * k + 6)), .int (kb (decide (xs (9 * k + 7) ≠ 0)))]) (b := h2) (rest := []) hx hb hml hown hB (ktz_c hK) hI hA hE hZ (C1_add l D cI cZ cG h2 ad2 H.size v P n hsm (xs (9 * k + 1)) (xs (9 * k + 2)) (xs (9 * k + 3)) (xs (9 * k + 4)) (decide (xs (9 * k + 5) ≠ 0)) (xs (9 * k + 6)) (decide (xs (9 * k + 7) ≠ 0))) (kgV kw_337 kw_338 ks1_add kw_2 kw_340) (by decide +kernel) ⟨Nat.le_of_ble_eq_true rfl, Nat.le_of_ble_eq_true rfl⟩ (va_recv (q0 := 0) (ci := 1) hK (kI_l (kI_swap hI)).1 rfl rfl) rfl hl.1 (Nat.le_of_ble_eq_true rfl) dL_law_216 ⟨show 100 + 2 * k + 2 + 0 ≤ 601024 by omega, show 10000 + 12 * k + 12 + 0 ≤ 7293034 by omega⟩ rfl (fun rb v2 H locs hq2 hI => ?_)
        obtain ⟨c2, P3, n3, ho2, he2, hs3⟩ := hq2
        have hcl := oA_le ho
        obtain ⟨ec, eP, en, ea⟩ := oA_fun ho ho2
        subst ec
        subst eP
        subst en
        refine lv_istore hx hb dL_law_219 hl (by decide) rfl (fun ls hl => ?_)
        have hl : lv_has ls 7 [(6, .int rb), (5, .int (nI c1)), (4, .int (nI (9 * k))), (3, .ref o), (2, .ref h2), (1, .ref h), (0, .ref b)] := hl
        refine lv_aload_n hx hb dL_law_221 rfl (lv_at hl 4 rfl) ?_
        refine kcall_fi (n := 0) (u := v2) (wf := kwM h2 ad2 cI cZ) (rw_ := kwO h ad cI cZ cG cJ o xa) (As := []) (b := h2) (rest := []) hx hb hml hown hB (ktz_c hK) hI hA hE hZ (C1_thrown l D cI cZ cG h2 ad2 H.size v2) (kgV kw_333 kw_334 ks1_thrown kw_2 kw_336) (by decide +kernel) ⟨Nat.le_of_ble_eq_true rfl, Nat.le_of_ble_eq_true rfl⟩ (va_recv (q0 := 0) (ci := 1) hK (kI_l (kI_swap hI)).1 rfl rfl) rfl hl.1 (Nat.le_of_ble_eq_true rfl) dL_law_222 ⟨show 100 + 2 * k + 2 + 0 ≤ 601024 by omega, show 10000 + 12 * k + 12 + 0 ≤ 7293034 by omega⟩ rfl (fun rt v3 H locs hq3 hI => ?_)
        obtain ⟨hv3, hx3⟩ := hq3
        rw [hx3] at hI
        rw [hv3, he2]
        refine lv_iload hx hb dL_law_225 (lv_at hl 1 rfl) ?_
        refine lv_icmp_eq (tgt := 232) hx hb dL_law_227 (by decide) (fun hc => ?_) (fun hc => absurd rfl hc)
        refine lv_iload hx hb dL_law_232 (lv_at hl 1 rfl) ?_
        refine lv_if_ne (tgt := 249) hx hb dL_law_234 (by decide) (fun hc => ?_) (fun hc => ?_)
        · skip
          refine lv_goto (tgt := 782) hx hb dL_law_249 (by decide) ?_
          refine lv_iinc (k := 2) (v := nI (9 * (k + 1))) hx hb dL_law_782 hl rfl (by rw [show Int32.ofInt 9 = nI 9 by decide, nI_add, show 9 * k + 9 = 9 * (k + 1) by omega]) (by decide) rfl (fun ls hl => ?_)
          have hl : lv_has ls 7 [(4, .int (nI (9 * (k + 1)))), (6, .int rb), (5, .int (nI c1)), (3, .ref o), (2, .ref h2), (1, .ref h), (0, .ref b)] := hl
          refine lv_goto (tgt := 23) hx hb dL_law_785 (by decide) ?_
          have e1 : 100 + 2 * k + 2 + 0 + 0 = 100 + 2 * (k + 1) := by omega
          have e2 : 10000 + 12 * k + 12 + 0 + 0 = 10000 + 12 * (k + 1) := by omega
          exact W.widen (Nat.le_of_eq e1) (Nat.le_of_eq e2) (ih ls H locs (k + 1) xa v2 P2 n2 (by omega) (by omega) hs2 hs3 (lv_sub hl [0, 3, 4, 5, 6] rfl) hI)
        · skip
          have he0 := ea (knI_z (by omega) hc)
          refine lv_aload_n hx hb dL_law_237 rfl (lv_at hl 3 rfl) ?_
          refine lv_iconst (v := nI 0) hx hb dL_law_238 (by decide) ?_
          refine kO_l hx hb hK hI dL_law_239 ?_
          rw [he0]
          refine lv_iload hx hb dL_law_240 (lv_at hl 0 rfl) ?_
          refine lv_i2l (v := rb.toInt64) hx hb dL_law_242 rfl ?_
          refine W.lcmp hx hb dL_law_243 ?_
          rw [lg_self]
          refine lv_if_eq (tgt := 249) hx hb dL_law_244 (by decide) (fun hc => ?_) (fun hc => absurd rfl hc)
          refine lv_goto (tgt := 782) hx hb dL_law_249 (by decide) ?_
          refine lv_iinc (k := 2) (v := nI (9 * (k + 1))) hx hb dL_law_782 hl rfl (by rw [show Int32.ofInt 9 = nI 9 by decide, nI_add, show 9 * k + 9 = 9 * (k + 1) by omega]) (by decide) rfl (fun ls hl => ?_)
          have hl : lv_has ls 7 [(4, .int (nI (9 * (k + 1)))), (6, .int rb), (5, .int (nI c1)), (3, .ref o), (2, .ref h2), (1, .ref h), (0, .ref b)] := hl
          refine lv_goto (tgt := 23) hx hb dL_law_785 (by decide) ?_
          have e1 : 100 + 2 * k + 2 + 0 + 0 = 100 + 2 * (k + 1) := by omega
          have e2 : 10000 + 12 * k + 12 + 0 + 0 = 10000 + 12 * (k + 1) := by omega
          exact W.widen (Nat.le_of_eq e1) (Nat.le_of_eq e2) (ih ls H locs (k + 1) xa v2 P2 n2 (by omega) (by omega) hs2 hs3 (lv_sub hl [0, 3, 4, 5, 6] rfl) hI)
      · refine lv_tableIn (off := 212) (tgt := 252) hx hb dL_law_40 (by decide) (by decide) rfl (by decide) ?_
        refine lv_aload_n hx hb dL_law_252 rfl (lv_at hl 3 rfl) ?_
        refine lv_aload_n hx hb dL_law_253 rfl (lv_at hl 4 rfl) ?_
        refine lv_iload hx hb dL_law_254 (lv_at hl 0 rfl) ?_
        refine lv_iconst (v := nI 1) hx hb dL_law_256 (by decide) ?_
        refine k_iadd (v := nI (9 * k + 1)) hx hb (nI_add _ _) dL_law_257 ?_
        refine kL_ld hx hb hX hbl hbA hI (9 * k + 1) (by omega) (by omega) rfl dL_law_258 ?_
        refine lv_aload_n hx hb dL_law_259 rfl (lv_at hl 4 rfl) ?_
        refine lv_iload hx hb dL_law_260 (lv_at hl 0 rfl) ?_
        refine lv_iconst (v := nI 2) hx hb dL_law_262 (by decide) ?_
        refine k_iadd (v := nI (9 * k + 2)) hx hb (nI_add _ _) dL_law_263 ?_
        refine kL_ld hx hb hX hbl hbA hI (9 * k + 2) (by omega) (by omega) rfl dL_law_264 ?_
        refine lv_aload_n hx hb dL_law_265 rfl (lv_at hl 4 rfl) ?_
        refine lv_iload hx hb dL_law_266 (lv_at hl 0 rfl) ?_
        refine lv_iconst (v := nI 3) hx hb dL_law_268 (by decide) ?_
        refine k_iadd (v := nI (9 * k + 3)) hx hb (nI_add _ _) dL_law_269 ?_
        refine kL_ld hx hb hX hbl hbA hI (9 * k + 3) (by omega) (by omega) rfl dL_law_270 ?_
        refine lv_aload_n hx hb dL_law_271 rfl (lv_at hl 4 rfl) ?_
        refine lv_iload hx hb dL_law_272 (lv_at hl 0 rfl) ?_
        refine lv_iconst (v := nI 4) hx hb dL_law_274 (by decide) ?_
        refine k_iadd (v := nI (9 * k + 4)) hx hb (nI_add _ _) dL_law_275 ?_
        refine kL_ld hx hb hX hbl hbA hI (9 * k + 4) (by omega) (by omega) rfl dL_law_276 ?_
        refine lv_aload_n hx hb dL_law_277 rfl (lv_at hl 4 rfl) ?_
        refine lv_iload hx hb dL_law_278 (lv_at hl 0 rfl) ?_
        refine lv_iconst (v := nI 5) hx hb dL_law_280 (by decide) ?_
        refine k_iadd (v := nI (9 * k + 5)) hx hb (nI_add _ _) dL_law_281 ?_
        refine kL_ld hx hb hX hbl hbA hI (9 * k + 5) (by omega) (by omega) rfl dL_law_282 ?_
        refine lv_aload_n hx hb dL_law_283 rfl (lv_at hl 4 rfl) ?_
        refine lv_iload hx hb dL_law_284 (lv_at hl 0 rfl) ?_
        refine lv_bipush (v := nI 6) hx hb dL_law_286 (by decide) ?_
        refine k_iadd (v := nI (9 * k + 6)) hx hb (nI_add _ _) dL_law_288 ?_
        refine kL_ld hx hb hX hbl hbA hI (9 * k + 6) (by omega) (by omega) rfl dL_law_289 ?_
        refine k_bool hx hb dL_law_290 dL_law_293 dL_law_294 dL_law_297 ?_
        refine lv_aload_n hx hb dL_law_298 rfl (lv_at hl 4 rfl) ?_
        refine lv_iload hx hb dL_law_299 (lv_at hl 0 rfl) ?_
        refine lv_bipush (v := nI 7) hx hb dL_law_301 (by decide) ?_
        refine k_iadd (v := nI (9 * k + 7)) hx hb (nI_add _ _) dL_law_303 ?_
        refine kL_ld hx hb hX hbl hbA hI (9 * k + 7) (by omega) (by omega) rfl dL_law_304 ?_
        refine lv_aload_n hx hb dL_law_305 rfl (lv_at hl 4 rfl) ?_
        refine lv_iload hx hb dL_law_306 (lv_at hl 0 rfl) ?_
        refine lv_bipush (v := nI 8) hx hb dL_law_308 (by decide) ?_
        refine k_iadd (v := nI (9 * k + 8)) hx hb (nI_add _ _) dL_law_310 ?_
        refine kL_ld hx hb hX hbl hbA hI (9 * k + 8) (by omega) (by omega) rfl dL_law_311 ?_
        refine k_bool hx hb dL_law_312 dL_law_315 dL_law_316 dL_law_319 ?_
        refine kcall_l (n := 9) (u := u) (wf := kwO h ad cI cZ cG cJ o) (rw_ := kwM h2 ad2 cI cZ v) (As := [.ref h, .int (xs (9 * k + 1)), .int (xs (9 * k + 2)), .int (xs (9 * k + 3)), .int (xs (9 * k + 4)), .int (xs (9 * k + 5)), .int (kb (decide (xs (9 * k + 6) ≠ 0))), .int (xs (9 * k + 7)), .int (kb (decide (xs (9 * k + 8) ≠ 0)))]) (rest := []) hx hb hml hown hB hK hI hA hE hZ (CL_change l hl0 D cI cZ cG cJ h ad o H.size u P n hst (xs (9 * k + 1)) (xs (9 * k + 2)) (xs (9 * k + 3)) (xs (9 * k + 4)) (xs (9 * k + 5)) (decide (xs (9 * k + 6) ≠ 0)) (xs (9 * k + 7)) (decide (xs (9 * k + 8) ≠ 0))) (kgS kw_194 kw_195 kw_0 kw_196) (by decide +kernel) ⟨Nat.le_of_ble_eq_true rfl, Nat.le_of_ble_eq_true rfl⟩ rfl hl.1 (Nat.le_of_ble_eq_true rfl) dL_law_320 ⟨show 100 + 2 * k + 2 ≤ 601024 by omega, show 10000 + 12 * k + 12 ≤ 7293034 by omega⟩ rfl (fun ra xa H locs hq hI => ?_)
        obtain ⟨c1, P2, hrc, ho, hs2⟩ := hq
        rw [hrc]
        refine lv_istore hx hb dL_law_323 hl (by decide) rfl (fun ls hl => ?_)
        have hl : lv_has ls 7 [(5, .int (nI c1)), (4, .int (nI (9 * k))), (3, .ref o), (2, .ref h2), (1, .ref h), (0, .ref b)] := hl
        refine lv_aload_n hx hb dL_law_325 rfl (lv_at hl 3 rfl) ?_
        refine lv_aload_n hx hb dL_law_326 rfl (lv_at hl 5 rfl) ?_
        refine lv_iload hx hb dL_law_327 (lv_at hl 1 rfl) ?_
        refine lv_iconst (v := nI 1) hx hb dL_law_329 (by decide) ?_
        refine k_iadd (v := nI (9 * k + 1)) hx hb (nI_add _ _) dL_law_330 ?_
        refine kL_ld hx hb hX hbl hbA hI (9 * k + 1) (by omega) (by omega) rfl dL_law_331 ?_
        refine lv_aload_n hx hb dL_law_332 rfl (lv_at hl 5 rfl) ?_
        refine lv_iload hx hb dL_law_333 (lv_at hl 1 rfl) ?_
        refine lv_iconst (v := nI 2) hx hb dL_law_335 (by decide) ?_
        refine k_iadd (v := nI (9 * k + 2)) hx hb (nI_add _ _) dL_law_336 ?_
        refine kL_ld hx hb hX hbl hbA hI (9 * k + 2) (by omega) (by omega) rfl dL_law_337 ?_
        refine lv_aload_n hx hb dL_law_338 rfl (lv_at hl 5 rfl) ?_
        refine lv_iload hx hb dL_law_339 (lv_at hl 1 rfl) ?_
        refine lv_iconst (v := nI 3) hx hb dL_law_341 (by decide) ?_
        refine k_iadd (v := nI (9 * k + 3)) hx hb (nI_add _ _) dL_law_342 ?_
        refine kL_ld hx hb hX hbl hbA hI (9 * k + 3) (by omega) (by omega) rfl dL_law_343 ?_
        refine lv_aload_n hx hb dL_law_344 rfl (lv_at hl 5 rfl) ?_
        refine lv_iload hx hb dL_law_345 (lv_at hl 1 rfl) ?_
        refine lv_iconst (v := nI 4) hx hb dL_law_347 (by decide) ?_
        refine k_iadd (v := nI (9 * k + 4)) hx hb (nI_add _ _) dL_law_348 ?_
        refine kL_ld hx hb hX hbl hbA hI (9 * k + 4) (by omega) (by omega) rfl dL_law_349 ?_
        refine lv_aload_n hx hb dL_law_350 rfl (lv_at hl 5 rfl) ?_
        refine lv_iload hx hb dL_law_351 (lv_at hl 1 rfl) ?_
        refine lv_iconst (v := nI 5) hx hb dL_law_353 (by decide) ?_
        refine k_iadd (v := nI (9 * k + 5)) hx hb (nI_add _ _) dL_law_354 ?_
        refine kL_ld hx hb hX hbl hbA hI (9 * k + 5) (by omega) (by omega) rfl dL_law_355 ?_
        refine lv_aload_n hx hb dL_law_356 rfl (lv_at hl 5 rfl) ?_
        refine lv_iload hx hb dL_law_357 (lv_at hl 1 rfl) ?_
        refine lv_bipush (v := nI 6) hx hb dL_law_359 (by decide) ?_
        refine k_iadd (v := nI (9 * k + 6)) hx hb (nI_add _ _) dL_law_361 ?_
        refine kL_ld hx hb hX hbl hbA hI (9 * k + 6) (by omega) (by omega) rfl dL_law_362 ?_
        refine k_bool hx hb dL_law_363 dL_law_366 dL_law_367 dL_law_370 ?_
        refine lv_aload_n hx hb dL_law_371 rfl (lv_at hl 5 rfl) ?_
        refine lv_iload hx hb dL_law_372 (lv_at hl 1 rfl) ?_
        refine lv_bipush (v := nI 7) hx hb dL_law_374 (by decide) ?_
        refine k_iadd (v := nI (9 * k + 7)) hx hb (nI_add _ _) dL_law_376 ?_
        refine kL_ld hx hb hX hbl hbA hI (9 * k + 7) (by omega) (by omega) rfl dL_law_377 ?_
        refine lv_aload_n hx hb dL_law_378 rfl (lv_at hl 5 rfl) ?_
        refine lv_iload hx hb dL_law_379 (lv_at hl 1 rfl) ?_
        refine lv_bipush (v := nI 8) hx hb dL_law_381 (by decide) ?_
        refine k_iadd (v := nI (9 * k + 8)) hx hb (nI_add _ _) dL_law_383 ?_
        refine kL_ld hx hb hX hbl hbA hI (9 * k + 8) (by omega) (by omega) rfl dL_law_384 ?_
        refine k_bool hx hb dL_law_385 dL_law_388 dL_law_389 dL_law_392 ?_
        refine kcall_fv (n := 8) (u := v) (wf := kwM h2 ad2 cI cZ) (rw_ := kwO h ad cI cZ cG cJ o xa) (As := [.int (xs (9 * k + 1)), .int (xs (9 * k + 2)), .int (xs (9 * k + 3)), .int (xs (9 * k + 4)), .int (xs (9 * k + 5)), .int (kb (decide (xs (9 * k + 6) ≠ 0))), .int (xs (9 * k + 7)), .int (kb (decide (xs (9 * k + 8) ≠ 0)))]) (b := h2) (rest := []) hx hb hml hown hB (ktz_c hK) hI hA hE hZ (C1_change l D cI cZ cG h2 ad2 H.size v P n hsm (xs (9 * k + 1)) (xs (9 * k + 2)) (xs (9 * k + 3)) (xs (9 * k + 4)) (xs (9 * k + 5)) (decide (xs (9 * k + 6) ≠ 0)) (xs (9 * k + 7)) (decide (xs (9 * k + 8) ≠ 0))) (kgV kw_352 kw_353 ks1_change kw_2 kw_355) (by decide +kernel) ⟨Nat.le_of_ble_eq_true rfl, Nat.le_of_ble_eq_true rfl⟩ (va_recv (q0 := 0) (ci := 1) hK (kI_l (kI_swap hI)).1 rfl rfl) rfl hl.1 (Nat.le_of_ble_eq_true rfl) dL_law_393 ⟨show 100 + 2 * k + 2 + 0 ≤ 601024 by omega, show 10000 + 12 * k + 12 + 0 ≤ 7293034 by omega⟩ rfl (fun v2 H locs hq2 hI => ?_)
        obtain ⟨c2, P3, ho2, he2, hs3⟩ := hq2
        have hcl := oC_le ho
        obtain ⟨ec, eP⟩ := oC_fun hn ho ho2
        subst ec
        subst eP
        refine lv_aload_n hx hb dL_law_396 rfl (lv_at hl 3 rfl) ?_
        refine kcall_fi (n := 0) (u := v2) (wf := kwM h2 ad2 cI cZ) (rw_ := kwO h ad cI cZ cG cJ o xa) (As := []) (b := h2) (rest := []) hx hb hml hown hB (ktz_c hK) hI hA hE hZ (C1_thrown l D cI cZ cG h2 ad2 H.size v2) (kgV kw_333 kw_334 ks1_thrown kw_2 kw_336) (by decide +kernel) ⟨Nat.le_of_ble_eq_true rfl, Nat.le_of_ble_eq_true rfl⟩ (va_recv (q0 := 0) (ci := 1) hK (kI_l (kI_swap hI)).1 rfl rfl) rfl hl.1 (Nat.le_of_ble_eq_true rfl) dL_law_397 ⟨show 100 + 2 * k + 2 + 0 ≤ 601024 by omega, show 10000 + 12 * k + 12 + 0 ≤ 7293034 by omega⟩ rfl (fun rt v3 H locs hq3 hI => ?_)
        obtain ⟨hv3, hx3⟩ := hq3
        rw [hx3] at hI
        rw [hv3, he2]
        refine lv_iload hx hb dL_law_400 (lv_at hl 0 rfl) ?_
        refine lv_icmp_eq (tgt := 407) hx hb dL_law_402 (by decide) (fun hc => ?_) (fun hc => absurd rfl hc)
        refine lv_goto (tgt := 782) hx hb dL_law_407 (by decide) ?_
        refine lv_iinc (k := 1) (v := nI (9 * (k + 1))) hx hb dL_law_782 hl rfl (by rw [show Int32.ofInt 9 = nI 9 by decide, nI_add, show 9 * k + 9 = 9 * (k + 1) by omega]) (by decide) rfl (fun ls hl => ?_)
        have hl : lv_has ls 7 [(4, .int (nI (9 * (k + 1)))), (5, .int (nI c1)), (3, .ref o), (2, .ref h2), (1, .ref h), (0, .ref b)] := hl
        refine lv_goto (tgt := 23) hx hb dL_law_785 (by decide) ?_
        have e1 : 100 + 2 * k + 2 + 0 + 0 = 100 + 2 * (k + 1) := by omega
        have e2 : 10000 + 12 * k + 12 + 0 + 0 = 10000 + 12 * (k + 1) := by omega
        exact W.widen (Nat.le_of_eq e1) (Nat.le_of_eq e2) (ih ls H locs (k + 1) xa v2 P2 n (by omega) (by omega) hs2 hs3 (lv_sub hl [0, 2, 3, 4, 5] rfl) hI)
      · refine lv_tableIn (off := 370) (tgt := 410) hx hb dL_law_40 (by decide) (by decide) rfl (by decide) ?_
        refine lv_aload_n hx hb dL_law_410 rfl (lv_at hl 3 rfl) ?_
        refine lv_aload_n hx hb dL_law_411 rfl (lv_at hl 4 rfl) ?_
        refine lv_iload hx hb dL_law_412 (lv_at hl 0 rfl) ?_
        refine lv_iconst (v := nI 1) hx hb dL_law_414 (by decide) ?_
        refine k_iadd (v := nI (9 * k + 1)) hx hb (nI_add _ _) dL_law_415 ?_
        refine kL_ld hx hb hX hbl hbA hI (9 * k + 1) (by omega) (by omega) rfl dL_law_416 ?_
        refine lv_aload_n hx hb dL_law_417 rfl (lv_at hl 1 rfl) ?_
        refine kcall_l (n := 3) (u := u) (wf := kwO h ad cI cZ cG cJ o) (rw_ := kwM h2 ad2 cI cZ v) (As := [.ref h, .int (xs (9 * k + 1)), .ref o]) (rest := []) hx hb hml hown hB hK hI hA hE hZ (CL_cut l hl0 D cI cZ cG cJ h ad o H.size u P n hst (xs (9 * k + 1))) (kgS kw_222 kw_223 kw_0 kw_224) (by decide +kernel) ⟨Nat.le_of_ble_eq_true rfl, Nat.le_of_ble_eq_true rfl⟩ rfl hl.1 (Nat.le_of_ble_eq_true rfl) dL_law_418 ⟨show 100 + 2 * k + 2 ≤ 601024 by omega, show 10000 + 12 * k + 12 ≤ 7293034 by omega⟩ rfl (fun ra xa H locs hq hI => ?_)
        obtain ⟨c1, n2, hrc, ho, hs2⟩ := hq
        rw [hrc]
        refine lv_istore hx hb dL_law_421 hl (by decide) rfl (fun ls hl => ?_)
        have hl : lv_has ls 7 [(5, .int (nI c1)), (4, .int (nI (9 * k))), (3, .ref o), (2, .ref h2), (1, .ref h), (0, .ref b)] := hl
        refine lv_aload_n hx hb dL_law_423 rfl (lv_at hl 3 rfl) ?_
        refine lv_aload_n hx hb dL_law_424 rfl (lv_at hl 5 rfl) ?_
        refine lv_iload hx hb dL_law_425 (lv_at hl 1 rfl) ?_
        refine lv_iconst (v := nI 1) hx hb dL_law_427 (by decide) ?_
        refine k_iadd (v := nI (9 * k + 1)) hx hb (nI_add _ _) dL_law_428 ?_
        refine kL_ld hx hb hX hbl hbA hI (9 * k + 1) (by omega) (by omega) rfl dL_law_429 ?_
        refine kcall_fi (n := 1) (u := v) (wf := kwM h2 ad2 cI cZ) (rw_ := kwO h ad cI cZ cG cJ o xa) (As := [.int (xs (9 * k + 1))]) (b := h2) (rest := []) hx hb hml hown hB (ktz_c hK) hI hA hE hZ (C1_cut l D cI cZ cG h2 ad2 H.size v P n hsm (xs (9 * k + 1))) (kgV kw_356 kw_357 ks1_cut kw_2 kw_359) (by decide +kernel) ⟨Nat.le_of_ble_eq_true rfl, Nat.le_of_ble_eq_true rfl⟩ (va_recv (q0 := 0) (ci := 1) hK (kI_l (kI_swap hI)).1 rfl rfl) rfl hl.1 (Nat.le_of_ble_eq_true rfl) dL_law_430 ⟨show 100 + 2 * k + 2 + 0 ≤ 601024 by omega, show 10000 + 12 * k + 12 + 0 ≤ 7293034 by omega⟩ rfl (fun rb v2 H locs hq2 hI => ?_)
        obtain ⟨c2, n3, ho2, he2, hs3⟩ := hq2
        have hcl := oT_le ho
        obtain ⟨ec, en, ea⟩ := oT_fun hn ho ho2
        subst ec
        subst en
        refine lv_istore hx hb dL_law_433 hl (by decide) rfl (fun ls hl => ?_)
        have hl : lv_has ls 7 [(6, .int rb), (5, .int (nI c1)), (4, .int (nI (9 * k))), (3, .ref o), (2, .ref h2), (1, .ref h), (0, .ref b)] := hl
        refine lv_aload_n hx hb dL_law_435 rfl (lv_at hl 4 rfl) ?_
        refine kcall_fi (n := 0) (u := v2) (wf := kwM h2 ad2 cI cZ) (rw_ := kwO h ad cI cZ cG cJ o xa) (As := []) (b := h2) (rest := []) hx hb hml hown hB (ktz_c hK) hI hA hE hZ (C1_thrown l D cI cZ cG h2 ad2 H.size v2) (kgV kw_333 kw_334 ks1_thrown kw_2 kw_336) (by decide +kernel) ⟨Nat.le_of_ble_eq_true rfl, Nat.le_of_ble_eq_true rfl⟩ (va_recv (q0 := 0) (ci := 1) hK (kI_l (kI_swap hI)).1 rfl rfl) rfl hl.1 (Nat.le_of_ble_eq_true rfl) dL_law_436 ⟨show 100 + 2 * k + 2 + 0 ≤ 601024 by omega, show 10000 + 12 * k + 12 + 0 ≤ 7293034 by omega⟩ rfl (fun rt v3 H locs hq3 hI => ?_)
        obtain ⟨hv3, hx3⟩ := hq3
        rw [hx3] at hI
        rw [hv3, he2]
        refine lv_iload hx hb dL_law_439 (lv_at hl 1 rfl) ?_
        refine lv_icmp_eq (tgt := 446) hx hb dL_law_441 (by decide) (fun hc => ?_) (fun hc => absurd rfl hc)
        refine lv_iload hx hb dL_law_446 (lv_at hl 1 rfl) ?_
        refine lv_if_ne (tgt := 463) hx hb dL_law_448 (by decide) (fun hc => ?_) (fun hc => ?_)
        · skip
          refine lv_goto (tgt := 782) hx hb dL_law_463 (by decide) ?_
          refine lv_iinc (k := 2) (v := nI (9 * (k + 1))) hx hb dL_law_782 hl rfl (by rw [show Int32.ofInt 9 = nI 9 by decide, nI_add, show 9 * k + 9 = 9 * (k + 1) by omega]) (by decide) rfl (fun ls hl => ?_)
          have hl : lv_has ls 7 [(4, .int (nI (9 * (k + 1)))), (6, .int rb), (5, .int (nI c1)), (3, .ref o), (2, .ref h2), (1, .ref h), (0, .ref b)] := hl
          refine lv_goto (tgt := 23) hx hb dL_law_785 (by decide) ?_
          have e1 : 100 + 2 * k + 2 + 0 + 0 = 100 + 2 * (k + 1) := by omega
          have e2 : 10000 + 12 * k + 12 + 0 + 0 = 10000 + 12 * (k + 1) := by omega
          exact W.widen (Nat.le_of_eq e1) (Nat.le_of_eq e2) (ih ls H locs (k + 1) xa v2 P n2 (by omega) (by omega) hs2 hs3 (lv_sub hl [0, 3, 4, 5, 6] rfl) hI)
        · skip
          have he0 := ea (knI_z (by omega) hc)
          refine lv_aload_n hx hb dL_law_451 rfl (lv_at hl 3 rfl) ?_
          refine lv_iconst (v := nI 0) hx hb dL_law_452 (by decide) ?_
          refine kO_l hx hb hK hI dL_law_453 ?_
          rw [he0]
          refine lv_iload hx hb dL_law_454 (lv_at hl 0 rfl) ?_
          refine lv_i2l (v := rb.toInt64) hx hb dL_law_456 rfl ?_
          refine W.lcmp hx hb dL_law_457 ?_
          rw [lg_self]
          refine lv_if_eq (tgt := 463) hx hb dL_law_458 (by decide) (fun hc => ?_) (fun hc => absurd rfl hc)
          refine lv_goto (tgt := 782) hx hb dL_law_463 (by decide) ?_
          refine lv_iinc (k := 2) (v := nI (9 * (k + 1))) hx hb dL_law_782 hl rfl (by rw [show Int32.ofInt 9 = nI 9 by decide, nI_add, show 9 * k + 9 = 9 * (k + 1) by omega]) (by decide) rfl (fun ls hl => ?_)
          have hl : lv_has ls 7 [(4, .int (nI (9 * (k + 1)))), (6, .int rb), (5, .int (nI c1)), (3, .ref o), (2, .ref h2), (1, .ref h), (0, .ref b)] := hl
          refine lv_goto (tgt := 23) hx hb dL_law_785 (by decide) ?_
          have e1 : 100 + 2 * k + 2 + 0 + 0 = 100 + 2 * (k + 1) := by omega
          have e2 : 10000 + 12 * k + 12 + 0 + 0 = 10000 + 12 * (k + 1) := by omega
          exact W.widen (Nat.le_of_eq e1) (Nat.le_of_eq e2) (ih ls H locs (k + 1) xa v2 P n2 (by omega) (by omega) hs2 hs3 (lv_sub hl [0, 3, 4, 5, 6] rfl) hI)
      · refine lv_tableIn (off := 426) (tgt := 466) hx hb dL_law_40 (by decide) (by decide) rfl (by decide) ?_
        refine lv_aload_n hx hb dL_law_466 rfl (lv_at hl 3 rfl) ?_
        refine lv_aload_n hx hb dL_law_467 rfl (lv_at hl 4 rfl) ?_
        refine lv_iload hx hb dL_law_468 (lv_at hl 0 rfl) ?_
        refine lv_iconst (v := nI 1) hx hb dL_law_470 (by decide) ?_
        refine k_iadd (v := nI (9 * k + 1)) hx hb (nI_add _ _) dL_law_471 ?_
        refine kL_ld hx hb hX hbl hbA hI (9 * k + 1) (by omega) (by omega) rfl dL_law_472 ?_
        refine lv_aload_n hx hb dL_law_473 rfl (lv_at hl 4 rfl) ?_
        refine lv_iload hx hb dL_law_474 (lv_at hl 0 rfl) ?_
        refine lv_iconst (v := nI 2) hx hb dL_law_476 (by decide) ?_
        refine k_iadd (v := nI (9 * k + 2)) hx hb (nI_add _ _) dL_law_477 ?_
        refine kL_ld hx hb hX hbl hbA hI (9 * k + 2) (by omega) (by omega) rfl dL_law_478 ?_
        refine lv_aload_n hx hb dL_law_479 rfl (lv_at hl 1 rfl) ?_
        refine kcall_l (n := 4) (u := u) (wf := kwO h ad cI cZ cG cJ o) (rw_ := kwM h2 ad2 cI cZ v) (As := [.ref h, .int (xs (9 * k + 1)), .int (xs (9 * k + 2)), .ref o]) (rest := []) hx hb hml hown hB hK hI hA hE hZ (CL_when l hl0 D cI cZ cG cJ h ad o H.size u P n hst (xs (9 * k + 1)) (xs (9 * k + 2))) (kgS kw_230 kw_231 kw_0 kw_232) (by decide +kernel) ⟨Nat.le_of_ble_eq_true rfl, Nat.le_of_ble_eq_true rfl⟩ rfl hl.1 (Nat.le_of_ble_eq_true rfl) dL_law_480 ⟨show 100 + 2 * k + 2 ≤ 601024 by omega, show 10000 + 12 * k + 12 ≤ 7293034 by omega⟩ rfl (fun ra xa H locs hq hI => ?_)
        obtain ⟨c1, hrc, ho, hs2⟩ := hq
        rw [hrc]
        refine lv_istore hx hb dL_law_483 hl (by decide) rfl (fun ls hl => ?_)
        have hl : lv_has ls 7 [(5, .int (nI c1)), (4, .int (nI (9 * k))), (3, .ref o), (2, .ref h2), (1, .ref h), (0, .ref b)] := hl
        refine lv_aload_n hx hb dL_law_485 rfl (lv_at hl 3 rfl) ?_
        refine lv_aload_n hx hb dL_law_486 rfl (lv_at hl 5 rfl) ?_
        refine lv_iload hx hb dL_law_487 (lv_at hl 1 rfl) ?_
        refine lv_iconst (v := nI 1) hx hb dL_law_489 (by decide) ?_
        refine k_iadd (v := nI (9 * k + 1)) hx hb (nI_add _ _) dL_law_490 ?_
        refine kL_ld hx hb hX hbl hbA hI (9 * k + 1) (by omega) (by omega) rfl dL_law_491 ?_
        refine lv_aload_n hx hb dL_law_492 rfl (lv_at hl 5 rfl) ?_
        refine lv_iload hx hb dL_law_493 (lv_at hl 1 rfl) ?_
        refine lv_iconst (v := nI 2) hx hb dL_law_495 (by decide) ?_
        refine k_iadd (v := nI (9 * k + 2)) hx hb (nI_add _ _) dL_law_496 ?_
        refine kL_ld hx hb hX hbl hbA hI (9 * k + 2) (by omega) (by omega) rfl dL_law_497 ?_
        refine kcall_fi (n := 2) (u := v) (wf := kwM h2 ad2 cI cZ) (rw_ := kwO h ad cI cZ cG cJ o xa) (As := [.int (xs (9 * k + 1)), .int (xs (9 * k + 2))]) (b := h2) (rest := []) hx hb hml hown hB (ktz_c hK) hI hA hE hZ (C1_when l D cI cZ cG h2 ad2 H.size v P n hsm (xs (9 * k + 1)) (xs (9 * k + 2))) (kgV kw_360 kw_361 ks1_when kw_2 kw_363) (by decide +kernel) ⟨Nat.le_of_ble_eq_true rfl, Nat.le_of_ble_eq_true rfl⟩ (va_recv (q0 := 0) (ci := 1) hK (kI_l (kI_swap hI)).1 rfl rfl) rfl hl.1 (Nat.le_of_ble_eq_true rfl) dL_law_498 ⟨show 100 + 2 * k + 2 + 0 ≤ 601024 by omega, show 10000 + 12 * k + 12 + 0 ≤ 7293034 by omega⟩ rfl (fun rb v2 H locs hq2 hI => ?_)
        obtain ⟨c2, ho2, he2, hs3⟩ := hq2
        have hcl := oW_le ho
        obtain ⟨ec, ea⟩ := oW_fun hn ho ho2
        subst ec
        refine lv_istore hx hb dL_law_501 hl (by decide) rfl (fun ls hl => ?_)
        have hl : lv_has ls 7 [(6, .int rb), (5, .int (nI c1)), (4, .int (nI (9 * k))), (3, .ref o), (2, .ref h2), (1, .ref h), (0, .ref b)] := hl
        refine lv_aload_n hx hb dL_law_503 rfl (lv_at hl 4 rfl) ?_
        refine kcall_fi (n := 0) (u := v2) (wf := kwM h2 ad2 cI cZ) (rw_ := kwO h ad cI cZ cG cJ o xa) (As := []) (b := h2) (rest := []) hx hb hml hown hB (ktz_c hK) hI hA hE hZ (C1_thrown l D cI cZ cG h2 ad2 H.size v2) (kgV kw_333 kw_334 ks1_thrown kw_2 kw_336) (by decide +kernel) ⟨Nat.le_of_ble_eq_true rfl, Nat.le_of_ble_eq_true rfl⟩ (va_recv (q0 := 0) (ci := 1) hK (kI_l (kI_swap hI)).1 rfl rfl) rfl hl.1 (Nat.le_of_ble_eq_true rfl) dL_law_504 ⟨show 100 + 2 * k + 2 + 0 ≤ 601024 by omega, show 10000 + 12 * k + 12 + 0 ≤ 7293034 by omega⟩ rfl (fun rt v3 H locs hq3 hI => ?_)
        obtain ⟨hv3, hx3⟩ := hq3
        rw [hx3] at hI
        rw [hv3, he2]
        refine lv_iload hx hb dL_law_507 (lv_at hl 1 rfl) ?_
        refine lv_icmp_eq (tgt := 514) hx hb dL_law_509 (by decide) (fun hc => ?_) (fun hc => absurd rfl hc)
        refine lv_iload hx hb dL_law_514 (lv_at hl 1 rfl) ?_
        refine lv_if_ne (tgt := 531) hx hb dL_law_516 (by decide) (fun hc => ?_) (fun hc => ?_)
        · skip
          refine lv_goto (tgt := 782) hx hb dL_law_531 (by decide) ?_
          refine lv_iinc (k := 2) (v := nI (9 * (k + 1))) hx hb dL_law_782 hl rfl (by rw [show Int32.ofInt 9 = nI 9 by decide, nI_add, show 9 * k + 9 = 9 * (k + 1) by omega]) (by decide) rfl (fun ls hl => ?_)
          have hl : lv_has ls 7 [(4, .int (nI (9 * (k + 1)))), (6, .int rb), (5, .int (nI c1)), (3, .ref o), (2, .ref h2), (1, .ref h), (0, .ref b)] := hl
          refine lv_goto (tgt := 23) hx hb dL_law_785 (by decide) ?_
          have e1 : 100 + 2 * k + 2 + 0 + 0 = 100 + 2 * (k + 1) := by omega
          have e2 : 10000 + 12 * k + 12 + 0 + 0 = 10000 + 12 * (k + 1) := by omega
          exact W.widen (Nat.le_of_eq e1) (Nat.le_of_eq e2) (ih ls H locs (k + 1) xa v2 P n (by omega) (by omega) hs2 hs3 (lv_sub hl [0, 3, 4, 5, 6] rfl) hI)
        · skip
          have he0 := ea (knI_z (by omega) hc)
          refine lv_aload_n hx hb dL_law_519 rfl (lv_at hl 3 rfl) ?_
          refine lv_iconst (v := nI 0) hx hb dL_law_520 (by decide) ?_
          refine kO_l hx hb hK hI dL_law_521 ?_
          rw [he0]
          refine lv_iload hx hb dL_law_522 (lv_at hl 0 rfl) ?_
          refine lv_i2l (v := rb.toInt64) hx hb dL_law_524 rfl ?_
          refine W.lcmp hx hb dL_law_525 ?_
          rw [lg_self]
          refine lv_if_eq (tgt := 531) hx hb dL_law_526 (by decide) (fun hc => ?_) (fun hc => absurd rfl hc)
          refine lv_goto (tgt := 782) hx hb dL_law_531 (by decide) ?_
          refine lv_iinc (k := 2) (v := nI (9 * (k + 1))) hx hb dL_law_782 hl rfl (by rw [show Int32.ofInt 9 = nI 9 by decide, nI_add, show 9 * k + 9 = 9 * (k + 1) by omega]) (by decide) rfl (fun ls hl => ?_)
          have hl : lv_has ls 7 [(4, .int (nI (9 * (k + 1)))), (6, .int rb), (5, .int (nI c1)), (3, .ref o), (2, .ref h2), (1, .ref h), (0, .ref b)] := hl
          refine lv_goto (tgt := 23) hx hb dL_law_785 (by decide) ?_
          have e1 : 100 + 2 * k + 2 + 0 + 0 = 100 + 2 * (k + 1) := by omega
          have e2 : 10000 + 12 * k + 12 + 0 + 0 = 10000 + 12 * (k + 1) := by omega
          exact W.widen (Nat.le_of_eq e1) (Nat.le_of_eq e2) (ih ls H locs (k + 1) xa v2 P n (by omega) (by omega) hs2 hs3 (lv_sub hl [0, 3, 4, 5, 6] rfl) hI)
      · refine lv_tableIn (off := 494) (tgt := 534) hx hb dL_law_40 (by decide) (by decide) rfl (by decide) ?_
        refine lv_aload_n hx hb dL_law_534 rfl (lv_at hl 3 rfl) ?_
        refine lv_aload_n hx hb dL_law_535 rfl (lv_at hl 4 rfl) ?_
        refine lv_iload hx hb dL_law_536 (lv_at hl 0 rfl) ?_
        refine lv_iconst (v := nI 1) hx hb dL_law_538 (by decide) ?_
        refine k_iadd (v := nI (9 * k + 1)) hx hb (nI_add _ _) dL_law_539 ?_
        refine kL_ld hx hb hX hbl hbA hI (9 * k + 1) (by omega) (by omega) rfl dL_law_540 ?_
        refine lv_aload_n hx hb dL_law_541 rfl (lv_at hl 4 rfl) ?_
        refine lv_iload hx hb dL_law_542 (lv_at hl 0 rfl) ?_
        refine lv_iconst (v := nI 2) hx hb dL_law_544 (by decide) ?_
        refine k_iadd (v := nI (9 * k + 2)) hx hb (nI_add _ _) dL_law_545 ?_
        refine kL_ld hx hb hX hbl hbA hI (9 * k + 2) (by omega) (by omega) rfl dL_law_546 ?_
        refine lv_aload_n hx hb dL_law_547 rfl (lv_at hl 1 rfl) ?_
        refine kcall_l (n := 4) (u := u) (wf := kwO h ad cI cZ cG cJ o) (rw_ := kwM h2 ad2 cI cZ v) (As := [.ref h, .int (xs (9 * k + 1)), .int (xs (9 * k + 2)), .ref o]) (rest := []) hx hb hml hown hB hK hI hA hE hZ (CL_in l hl0 D cI cZ cG cJ h ad o H.size u P n hst (xs (9 * k + 1)) (xs (9 * k + 2))) (kgS kw_238 kw_239 kw_0 kw_240) (by decide +kernel) ⟨Nat.le_of_ble_eq_true rfl, Nat.le_of_ble_eq_true rfl⟩ rfl hl.1 (Nat.le_of_ble_eq_true rfl) dL_law_548 ⟨show 100 + 2 * k + 2 ≤ 601024 by omega, show 10000 + 12 * k + 12 ≤ 7293034 by omega⟩ rfl (fun ra xa H locs hq hI => ?_)
        obtain ⟨c1, hrc, ho, hs2⟩ := hq
        rw [hrc]
        refine lv_istore hx hb dL_law_551 hl (by decide) rfl (fun ls hl => ?_)
        have hl : lv_has ls 7 [(5, .int (nI c1)), (4, .int (nI (9 * k))), (3, .ref o), (2, .ref h2), (1, .ref h), (0, .ref b)] := hl
        refine lv_aload_n hx hb dL_law_553 rfl (lv_at hl 3 rfl) ?_
        refine lv_aload_n hx hb dL_law_554 rfl (lv_at hl 5 rfl) ?_
        refine lv_iload hx hb dL_law_555 (lv_at hl 1 rfl) ?_
        refine lv_iconst (v := nI 1) hx hb dL_law_557 (by decide) ?_
        refine k_iadd (v := nI (9 * k + 1)) hx hb (nI_add _ _) dL_law_558 ?_
        refine kL_ld hx hb hX hbl hbA hI (9 * k + 1) (by omega) (by omega) rfl dL_law_559 ?_
        refine lv_aload_n hx hb dL_law_560 rfl (lv_at hl 5 rfl) ?_
        refine lv_iload hx hb dL_law_561 (lv_at hl 1 rfl) ?_
        refine lv_iconst (v := nI 2) hx hb dL_law_563 (by decide) ?_
        refine k_iadd (v := nI (9 * k + 2)) hx hb (nI_add _ _) dL_law_564 ?_
        refine kL_ld hx hb hX hbl hbA hI (9 * k + 2) (by omega) (by omega) rfl dL_law_565 ?_
        refine kcall_fi (n := 2) (u := v) (wf := kwM h2 ad2 cI cZ) (rw_ := kwO h ad cI cZ cG cJ o xa) (As := [.int (xs (9 * k + 1)), .int (xs (9 * k + 2))]) (b := h2) (rest := []) hx hb hml hown hB (ktz_c hK) hI hA hE hZ (C1_in l D cI cZ cG h2 ad2 H.size v P n hsm (xs (9 * k + 1)) (xs (9 * k + 2))) (kgV kw_387 kw_388 ks1_in kw_2 kw_390) (by decide +kernel) ⟨Nat.le_of_ble_eq_true rfl, Nat.le_of_ble_eq_true rfl⟩ (va_recv (q0 := 0) (ci := 1) hK (kI_l (kI_swap hI)).1 rfl rfl) rfl hl.1 (Nat.le_of_ble_eq_true rfl) dL_law_566 ⟨show 100 + 2 * k + 2 + 0 ≤ 601024 by omega, show 10000 + 12 * k + 12 + 0 ≤ 7293034 by omega⟩ rfl (fun rb v2 H locs hq2 hI => ?_)
        obtain ⟨c2, ho2, he2, hs3⟩ := hq2
        have hcl := oI_le ho
        obtain ⟨ec, ea⟩ := oI_fun ho ho2
        subst ec
        refine lv_istore hx hb dL_law_569 hl (by decide) rfl (fun ls hl => ?_)
        have hl : lv_has ls 7 [(6, .int rb), (5, .int (nI c1)), (4, .int (nI (9 * k))), (3, .ref o), (2, .ref h2), (1, .ref h), (0, .ref b)] := hl
        refine lv_aload_n hx hb dL_law_571 rfl (lv_at hl 4 rfl) ?_
        refine kcall_fi (n := 0) (u := v2) (wf := kwM h2 ad2 cI cZ) (rw_ := kwO h ad cI cZ cG cJ o xa) (As := []) (b := h2) (rest := []) hx hb hml hown hB (ktz_c hK) hI hA hE hZ (C1_thrown l D cI cZ cG h2 ad2 H.size v2) (kgV kw_333 kw_334 ks1_thrown kw_2 kw_336) (by decide +kernel) ⟨Nat.le_of_ble_eq_true rfl, Nat.le_of_ble_eq_true rfl⟩ (va_recv (q0 := 0) (ci := 1) hK (kI_l (kI_swap hI)).1 rfl rfl) rfl hl.1 (Nat.le_of_ble_eq_true rfl) dL_law_572 ⟨show 100 + 2 * k + 2 + 0 ≤ 601024 by omega, show 10000 + 12 * k + 12 + 0 ≤ 7293034 by omega⟩ rfl (fun rt v3 H locs hq3 hI => ?_)
        obtain ⟨hv3, hx3⟩ := hq3
        rw [hx3] at hI
        rw [hv3, he2]
        refine lv_iload hx hb dL_law_575 (lv_at hl 1 rfl) ?_
        refine lv_icmp_eq (tgt := 582) hx hb dL_law_577 (by decide) (fun hc => ?_) (fun hc => absurd rfl hc)
        refine lv_iload hx hb dL_law_582 (lv_at hl 1 rfl) ?_
        refine lv_if_ne (tgt := 599) hx hb dL_law_584 (by decide) (fun hc => ?_) (fun hc => ?_)
        · skip
          refine lv_goto (tgt := 782) hx hb dL_law_599 (by decide) ?_
          refine lv_iinc (k := 2) (v := nI (9 * (k + 1))) hx hb dL_law_782 hl rfl (by rw [show Int32.ofInt 9 = nI 9 by decide, nI_add, show 9 * k + 9 = 9 * (k + 1) by omega]) (by decide) rfl (fun ls hl => ?_)
          have hl : lv_has ls 7 [(4, .int (nI (9 * (k + 1)))), (6, .int rb), (5, .int (nI c1)), (3, .ref o), (2, .ref h2), (1, .ref h), (0, .ref b)] := hl
          refine lv_goto (tgt := 23) hx hb dL_law_785 (by decide) ?_
          have e1 : 100 + 2 * k + 2 + 0 + 0 = 100 + 2 * (k + 1) := by omega
          have e2 : 10000 + 12 * k + 12 + 0 + 0 = 10000 + 12 * (k + 1) := by omega
          exact W.widen (Nat.le_of_eq e1) (Nat.le_of_eq e2) (ih ls H locs (k + 1) xa v2 P n (by omega) (by omega) hs2 hs3 (lv_sub hl [0, 3, 4, 5, 6] rfl) hI)
        · skip
          have he0 := ea (knI_z (by omega) hc)
          refine lv_aload_n hx hb dL_law_587 rfl (lv_at hl 3 rfl) ?_
          refine lv_iconst (v := nI 0) hx hb dL_law_588 (by decide) ?_
          refine kO_l hx hb hK hI dL_law_589 ?_
          rw [he0]
          refine lv_iload hx hb dL_law_590 (lv_at hl 0 rfl) ?_
          refine lv_i2l (v := rb.toInt64) hx hb dL_law_592 rfl ?_
          refine W.lcmp hx hb dL_law_593 ?_
          rw [lg_self]
          refine lv_if_eq (tgt := 599) hx hb dL_law_594 (by decide) (fun hc => ?_) (fun hc => absurd rfl hc)
          refine lv_goto (tgt := 782) hx hb dL_law_599 (by decide) ?_
          refine lv_iinc (k := 2) (v := nI (9 * (k + 1))) hx hb dL_law_782 hl rfl (by rw [show Int32.ofInt 9 = nI 9 by decide, nI_add, show 9 * k + 9 = 9 * (k + 1) by omega]) (by decide) rfl (fun ls hl => ?_)
          have hl : lv_has ls 7 [(4, .int (nI (9 * (k + 1)))), (6, .int rb), (5, .int (nI c1)), (3, .ref o), (2, .ref h2), (1, .ref h), (0, .ref b)] := hl
          refine lv_goto (tgt := 23) hx hb dL_law_785 (by decide) ?_
          have e1 : 100 + 2 * k + 2 + 0 + 0 = 100 + 2 * (k + 1) := by omega
          have e2 : 10000 + 12 * k + 12 + 0 + 0 = 10000 + 12 * (k + 1) := by omega
          exact W.widen (Nat.le_of_eq e1) (Nat.le_of_eq e2) (ih ls H locs (k + 1) xa v2 P n (by omega) (by omega) hs2 hs3 (lv_sub hl [0, 3, 4, 5, 6] rfl) hI)
      · refine lv_tableIn (off := 562) (tgt := 602) hx hb dL_law_40 (by decide) (by decide) rfl (by decide) ?_
        refine lv_aload_n hx hb dL_law_602 rfl (lv_at hl 3 rfl) ?_
        refine lv_aload_n hx hb dL_law_603 rfl (lv_at hl 4 rfl) ?_
        refine lv_iload hx hb dL_law_604 (lv_at hl 0 rfl) ?_
        refine lv_iconst (v := nI 1) hx hb dL_law_606 (by decide) ?_
        refine k_iadd (v := nI (9 * k + 1)) hx hb (nI_add _ _) dL_law_607 ?_
        refine kL_ld hx hb hX hbl hbA hI (9 * k + 1) (by omega) (by omega) rfl dL_law_608 ?_
        refine lv_aload_n hx hb dL_law_609 rfl (lv_at hl 1 rfl) ?_
        refine kcall_l (n := 3) (u := u) (wf := kwO h ad cI cZ cG cJ o) (rw_ := kwM h2 ad2 cI cZ v) (As := [.ref h, .int (xs (9 * k + 1)), .ref o]) (rest := []) hx hb hml hown hB hK hI hA hE hZ (CL_held l hl0 D cI cZ cG cJ h ad o H.size u P n hst (xs (9 * k + 1))) (kgS kw_250 kw_251 kw_0 kw_252) (by decide +kernel) ⟨Nat.le_of_ble_eq_true rfl, Nat.le_of_ble_eq_true rfl⟩ rfl hl.1 (Nat.le_of_ble_eq_true rfl) dL_law_610 ⟨show 100 + 2 * k + 2 ≤ 601024 by omega, show 10000 + 12 * k + 12 ≤ 7293034 by omega⟩ rfl (fun ra xa H locs hq hI => ?_)
        obtain ⟨c1, hrc, ho, hs2⟩ := hq
        rw [hrc]
        refine lv_istore hx hb dL_law_613 hl (by decide) rfl (fun ls hl => ?_)
        have hl : lv_has ls 7 [(5, .int (nI c1)), (4, .int (nI (9 * k))), (3, .ref o), (2, .ref h2), (1, .ref h), (0, .ref b)] := hl
        refine lv_aload_n hx hb dL_law_615 rfl (lv_at hl 3 rfl) ?_
        refine lv_aload_n hx hb dL_law_616 rfl (lv_at hl 5 rfl) ?_
        refine lv_iload hx hb dL_law_617 (lv_at hl 1 rfl) ?_
        refine lv_iconst (v := nI 1) hx hb dL_law_619 (by decide) ?_
        refine k_iadd (v := nI (9 * k + 1)) hx hb (nI_add _ _) dL_law_620 ?_
        refine kL_ld hx hb hX hbl hbA hI (9 * k + 1) (by omega) (by omega) rfl dL_law_621 ?_
        refine kcall_fi (n := 1) (u := v) (wf := kwM h2 ad2 cI cZ) (rw_ := kwO h ad cI cZ cG cJ o xa) (As := [.int (xs (9 * k + 1))]) (b := h2) (rest := []) hx hb hml hown hB (ktz_c hK) hI hA hE hZ (C1_held l D cI cZ cG h2 ad2 H.size v P n hsm (xs (9 * k + 1))) (kgV kw_395 kw_396 ks1_held kw_2 kw_398) (by decide +kernel) ⟨Nat.le_of_ble_eq_true rfl, Nat.le_of_ble_eq_true rfl⟩ (va_recv (q0 := 0) (ci := 1) hK (kI_l (kI_swap hI)).1 rfl rfl) rfl hl.1 (Nat.le_of_ble_eq_true rfl) dL_law_622 ⟨show 100 + 2 * k + 2 + 0 ≤ 601024 by omega, show 10000 + 12 * k + 12 + 0 ≤ 7293034 by omega⟩ rfl (fun rb v2 H locs hq2 hI => ?_)
        obtain ⟨c2, ho2, he2, hs3⟩ := hq2
        have hcl := oH_le ho
        obtain ⟨ec, ea⟩ := oH_fun hn ho ho2
        subst ec
        refine lv_istore hx hb dL_law_625 hl (by decide) rfl (fun ls hl => ?_)
        have hl : lv_has ls 7 [(6, .int rb), (5, .int (nI c1)), (4, .int (nI (9 * k))), (3, .ref o), (2, .ref h2), (1, .ref h), (0, .ref b)] := hl
        refine lv_aload_n hx hb dL_law_627 rfl (lv_at hl 4 rfl) ?_
        refine kcall_fi (n := 0) (u := v2) (wf := kwM h2 ad2 cI cZ) (rw_ := kwO h ad cI cZ cG cJ o xa) (As := []) (b := h2) (rest := []) hx hb hml hown hB (ktz_c hK) hI hA hE hZ (C1_thrown l D cI cZ cG h2 ad2 H.size v2) (kgV kw_333 kw_334 ks1_thrown kw_2 kw_336) (by decide +kernel) ⟨Nat.le_of_ble_eq_true rfl, Nat.le_of_ble_eq_true rfl⟩ (va_recv (q0 := 0) (ci := 1) hK (kI_l (kI_swap hI)).1 rfl rfl) rfl hl.1 (Nat.le_of_ble_eq_true rfl) dL_law_628 ⟨show 100 + 2 * k + 2 + 0 ≤ 601024 by omega, show 10000 + 12 * k + 12 + 0 ≤ 7293034 by omega⟩ rfl (fun rt v3 H locs hq3 hI => ?_)
        obtain ⟨hv3, hx3⟩ := hq3
        rw [hx3] at hI
        rw [hv3, he2]
        refine lv_iload hx hb dL_law_631 (lv_at hl 1 rfl) ?_
        refine lv_icmp_eq (tgt := 638) hx hb dL_law_633 (by decide) (fun hc => ?_) (fun hc => absurd rfl hc)
        refine lv_iload hx hb dL_law_638 (lv_at hl 1 rfl) ?_
        refine lv_if_ne (tgt := 655) hx hb dL_law_640 (by decide) (fun hc => ?_) (fun hc => ?_)
        · skip
          refine lv_goto (tgt := 782) hx hb dL_law_655 (by decide) ?_
          refine lv_iinc (k := 2) (v := nI (9 * (k + 1))) hx hb dL_law_782 hl rfl (by rw [show Int32.ofInt 9 = nI 9 by decide, nI_add, show 9 * k + 9 = 9 * (k + 1) by omega]) (by decide) rfl (fun ls hl => ?_)
          have hl : lv_has ls 7 [(4, .int (nI (9 * (k + 1)))), (6, .int rb), (5, .int (nI c1)), (3, .ref o), (2, .ref h2), (1, .ref h), (0, .ref b)] := hl
          refine lv_goto (tgt := 23) hx hb dL_law_785 (by decide) ?_
          have e1 : 100 + 2 * k + 2 + 0 + 0 = 100 + 2 * (k + 1) := by omega
          have e2 : 10000 + 12 * k + 12 + 0 + 0 = 10000 + 12 * (k + 1) := by omega
          exact W.widen (Nat.le_of_eq e1) (Nat.le_of_eq e2) (ih ls H locs (k + 1) xa v2 P n (by omega) (by omega) hs2 hs3 (lv_sub hl [0, 3, 4, 5, 6] rfl) hI)
        · skip
          have he0 := ea (knI_z (by omega) hc)
          refine lv_aload_n hx hb dL_law_643 rfl (lv_at hl 3 rfl) ?_
          refine lv_iconst (v := nI 0) hx hb dL_law_644 (by decide) ?_
          refine kO_l hx hb hK hI dL_law_645 ?_
          rw [he0]
          refine lv_iload hx hb dL_law_646 (lv_at hl 0 rfl) ?_
          refine lv_i2l (v := rb.toInt64) hx hb dL_law_648 rfl ?_
          refine W.lcmp hx hb dL_law_649 ?_
          rw [lg_self]
          refine lv_if_eq (tgt := 655) hx hb dL_law_650 (by decide) (fun hc => ?_) (fun hc => absurd rfl hc)
          refine lv_goto (tgt := 782) hx hb dL_law_655 (by decide) ?_
          refine lv_iinc (k := 2) (v := nI (9 * (k + 1))) hx hb dL_law_782 hl rfl (by rw [show Int32.ofInt 9 = nI 9 by decide, nI_add, show 9 * k + 9 = 9 * (k + 1) by omega]) (by decide) rfl (fun ls hl => ?_)
          have hl : lv_has ls 7 [(4, .int (nI (9 * (k + 1)))), (6, .int rb), (5, .int (nI c1)), (3, .ref o), (2, .ref h2), (1, .ref h), (0, .ref b)] := hl
          refine lv_goto (tgt := 23) hx hb dL_law_785 (by decide) ?_
          have e1 : 100 + 2 * k + 2 + 0 + 0 = 100 + 2 * (k + 1) := by omega
          have e2 : 10000 + 12 * k + 12 + 0 + 0 = 10000 + 12 * (k + 1) := by omega
          exact W.widen (Nat.le_of_eq e1) (Nat.le_of_eq e2) (ih ls H locs (k + 1) xa v2 P n (by omega) (by omega) hs2 hs3 (lv_sub hl [0, 3, 4, 5, 6] rfl) hI)
      · refine lv_tableIn (off := 618) (tgt := 658) hx hb dL_law_40 (by decide) (by decide) rfl (by decide) ?_
        refine lv_aload_n hx hb dL_law_658 rfl (lv_at hl 3 rfl) ?_
        refine lv_aload_n hx hb dL_law_659 rfl (lv_at hl 4 rfl) ?_
        refine lv_iload hx hb dL_law_660 (lv_at hl 0 rfl) ?_
        refine lv_iconst (v := nI 1) hx hb dL_law_662 (by decide) ?_
        refine k_iadd (v := nI (9 * k + 1)) hx hb (nI_add _ _) dL_law_663 ?_
        refine kL_ld hx hb hX hbl hbA hI (9 * k + 1) (by omega) (by omega) rfl dL_law_664 ?_
        refine lv_aload_n hx hb dL_law_665 rfl (lv_at hl 4 rfl) ?_
        refine lv_iload hx hb dL_law_666 (lv_at hl 0 rfl) ?_
        refine lv_iconst (v := nI 2) hx hb dL_law_668 (by decide) ?_
        refine k_iadd (v := nI (9 * k + 2)) hx hb (nI_add _ _) dL_law_669 ?_
        refine kL_ld hx hb hX hbl hbA hI (9 * k + 2) (by omega) (by omega) rfl dL_law_670 ?_
        refine lv_aload_n hx hb dL_law_671 rfl (lv_at hl 1 rfl) ?_
        refine kcall_l (n := 4) (u := u) (wf := kwO h ad cI cZ cG cJ o) (rw_ := kwM h2 ad2 cI cZ v) (As := [.ref h, .int (xs (9 * k + 1)), .int (xs (9 * k + 2)), .ref o]) (rest := []) hx hb hml hown hB hK hI hA hE hZ (CL_giver l hl0 D cI cZ cG cJ h ad o H.size u P n hst (xs (9 * k + 1)) (xs (9 * k + 2))) (kgS kw_257 kw_258 kw_0 kw_259) (by decide +kernel) ⟨Nat.le_of_ble_eq_true rfl, Nat.le_of_ble_eq_true rfl⟩ rfl hl.1 (Nat.le_of_ble_eq_true rfl) dL_law_672 ⟨show 100 + 2 * k + 2 ≤ 601024 by omega, show 10000 + 12 * k + 12 ≤ 7293034 by omega⟩ rfl (fun ra xa H locs hq hI => ?_)
        obtain ⟨c1, hrc, ho, hs2⟩ := hq
        rw [hrc]
        refine lv_istore hx hb dL_law_675 hl (by decide) rfl (fun ls hl => ?_)
        have hl : lv_has ls 7 [(5, .int (nI c1)), (4, .int (nI (9 * k))), (3, .ref o), (2, .ref h2), (1, .ref h), (0, .ref b)] := hl
        refine lv_aload_n hx hb dL_law_677 rfl (lv_at hl 3 rfl) ?_
        refine lv_aload_n hx hb dL_law_678 rfl (lv_at hl 5 rfl) ?_
        refine lv_iload hx hb dL_law_679 (lv_at hl 1 rfl) ?_
        refine lv_iconst (v := nI 1) hx hb dL_law_681 (by decide) ?_
        refine k_iadd (v := nI (9 * k + 1)) hx hb (nI_add _ _) dL_law_682 ?_
        refine kL_ld hx hb hX hbl hbA hI (9 * k + 1) (by omega) (by omega) rfl dL_law_683 ?_
        refine lv_aload_n hx hb dL_law_684 rfl (lv_at hl 5 rfl) ?_
        refine lv_iload hx hb dL_law_685 (lv_at hl 1 rfl) ?_
        refine lv_iconst (v := nI 2) hx hb dL_law_687 (by decide) ?_
        refine k_iadd (v := nI (9 * k + 2)) hx hb (nI_add _ _) dL_law_688 ?_
        refine kL_ld hx hb hX hbl hbA hI (9 * k + 2) (by omega) (by omega) rfl dL_law_689 ?_
        refine kcall_fi (n := 2) (u := v) (wf := kwM h2 ad2 cI cZ) (rw_ := kwO h ad cI cZ cG cJ o xa) (As := [.int (xs (9 * k + 1)), .int (xs (9 * k + 2))]) (b := h2) (rest := []) hx hb hml hown hB (ktz_c hK) hI hA hE hZ (C1_giver l D cI cZ cG h2 ad2 H.size v P n hsm (xs (9 * k + 1)) (xs (9 * k + 2))) (kgV kw_399 kw_400 ks1_giver kw_2 kw_402) (by decide +kernel) ⟨Nat.le_of_ble_eq_true rfl, Nat.le_of_ble_eq_true rfl⟩ (va_recv (q0 := 0) (ci := 1) hK (kI_l (kI_swap hI)).1 rfl rfl) rfl hl.1 (Nat.le_of_ble_eq_true rfl) dL_law_690 ⟨show 100 + 2 * k + 2 + 0 ≤ 601024 by omega, show 10000 + 12 * k + 12 + 0 ≤ 7293034 by omega⟩ rfl (fun rb v2 H locs hq2 hI => ?_)
        obtain ⟨c2, ho2, he2, hs3⟩ := hq2
        have hcl := oG_le ho
        obtain ⟨ec, ea⟩ := oG_fun hn ho ho2
        subst ec
        refine lv_istore hx hb dL_law_693 hl (by decide) rfl (fun ls hl => ?_)
        have hl : lv_has ls 7 [(6, .int rb), (5, .int (nI c1)), (4, .int (nI (9 * k))), (3, .ref o), (2, .ref h2), (1, .ref h), (0, .ref b)] := hl
        refine lv_aload_n hx hb dL_law_695 rfl (lv_at hl 4 rfl) ?_
        refine kcall_fi (n := 0) (u := v2) (wf := kwM h2 ad2 cI cZ) (rw_ := kwO h ad cI cZ cG cJ o xa) (As := []) (b := h2) (rest := []) hx hb hml hown hB (ktz_c hK) hI hA hE hZ (C1_thrown l D cI cZ cG h2 ad2 H.size v2) (kgV kw_333 kw_334 ks1_thrown kw_2 kw_336) (by decide +kernel) ⟨Nat.le_of_ble_eq_true rfl, Nat.le_of_ble_eq_true rfl⟩ (va_recv (q0 := 0) (ci := 1) hK (kI_l (kI_swap hI)).1 rfl rfl) rfl hl.1 (Nat.le_of_ble_eq_true rfl) dL_law_696 ⟨show 100 + 2 * k + 2 + 0 ≤ 601024 by omega, show 10000 + 12 * k + 12 + 0 ≤ 7293034 by omega⟩ rfl (fun rt v3 H locs hq3 hI => ?_)
        obtain ⟨hv3, hx3⟩ := hq3
        rw [hx3] at hI
        rw [hv3, he2]
        refine lv_iload hx hb dL_law_699 (lv_at hl 1 rfl) ?_
        refine lv_icmp_eq (tgt := 706) hx hb dL_law_701 (by decide) (fun hc => ?_) (fun hc => absurd rfl hc)
        refine lv_iload hx hb dL_law_706 (lv_at hl 1 rfl) ?_
        refine lv_if_ne (tgt := 723) hx hb dL_law_708 (by decide) (fun hc => ?_) (fun hc => ?_)
        · skip
          refine lv_goto (tgt := 782) hx hb dL_law_723 (by decide) ?_
          refine lv_iinc (k := 2) (v := nI (9 * (k + 1))) hx hb dL_law_782 hl rfl (by rw [show Int32.ofInt 9 = nI 9 by decide, nI_add, show 9 * k + 9 = 9 * (k + 1) by omega]) (by decide) rfl (fun ls hl => ?_)
          have hl : lv_has ls 7 [(4, .int (nI (9 * (k + 1)))), (6, .int rb), (5, .int (nI c1)), (3, .ref o), (2, .ref h2), (1, .ref h), (0, .ref b)] := hl
          refine lv_goto (tgt := 23) hx hb dL_law_785 (by decide) ?_
          have e1 : 100 + 2 * k + 2 + 0 + 0 = 100 + 2 * (k + 1) := by omega
          have e2 : 10000 + 12 * k + 12 + 0 + 0 = 10000 + 12 * (k + 1) := by omega
          exact W.widen (Nat.le_of_eq e1) (Nat.le_of_eq e2) (ih ls H locs (k + 1) xa v2 P n (by omega) (by omega) hs2 hs3 (lv_sub hl [0, 3, 4, 5, 6] rfl) hI)
        · skip
          have he0 := ea (knI_z (by omega) hc)
          refine lv_aload_n hx hb dL_law_711 rfl (lv_at hl 3 rfl) ?_
          refine lv_iconst (v := nI 0) hx hb dL_law_712 (by decide) ?_
          refine kO_l hx hb hK hI dL_law_713 ?_
          rw [he0]
          refine lv_iload hx hb dL_law_714 (lv_at hl 0 rfl) ?_
          refine lv_i2l (v := rb.toInt64) hx hb dL_law_716 rfl ?_
          refine W.lcmp hx hb dL_law_717 ?_
          rw [lg_self]
          refine lv_if_eq (tgt := 723) hx hb dL_law_718 (by decide) (fun hc => ?_) (fun hc => absurd rfl hc)
          refine lv_goto (tgt := 782) hx hb dL_law_723 (by decide) ?_
          refine lv_iinc (k := 2) (v := nI (9 * (k + 1))) hx hb dL_law_782 hl rfl (by rw [show Int32.ofInt 9 = nI 9 by decide, nI_add, show 9 * k + 9 = 9 * (k + 1) by omega]) (by decide) rfl (fun ls hl => ?_)
          have hl : lv_has ls 7 [(4, .int (nI (9 * (k + 1)))), (6, .int rb), (5, .int (nI c1)), (3, .ref o), (2, .ref h2), (1, .ref h), (0, .ref b)] := hl
          refine lv_goto (tgt := 23) hx hb dL_law_785 (by decide) ?_
          have e1 : 100 + 2 * k + 2 + 0 + 0 = 100 + 2 * (k + 1) := by omega
          have e2 : 10000 + 12 * k + 12 + 0 + 0 = 10000 + 12 * (k + 1) := by omega
          exact W.widen (Nat.le_of_eq e1) (Nat.le_of_eq e2) (ih ls H locs (k + 1) xa v2 P n (by omega) (by omega) hs2 hs3 (lv_sub hl [0, 3, 4, 5, 6] rfl) hI)
      · refine lv_tableIn (off := 686) (tgt := 726) hx hb dL_law_40 (by decide) (by decide) rfl (by decide) ?_
        refine lv_aload_n hx hb dL_law_726 rfl (lv_at hl 3 rfl) ?_
        refine lv_aload_n hx hb dL_law_727 rfl (lv_at hl 4 rfl) ?_
        refine lv_iload hx hb dL_law_728 (lv_at hl 0 rfl) ?_
        refine lv_iconst (v := nI 1) hx hb dL_law_730 (by decide) ?_
        refine k_iadd (v := nI (9 * k + 1)) hx hb (nI_add _ _) dL_law_731 ?_
        refine kL_ld hx hb hX hbl hbA hI (9 * k + 1) (by omega) (by omega) rfl dL_law_732 ?_
        refine lv_aload_n hx hb dL_law_733 rfl (lv_at hl 1 rfl) ?_
        refine kcall_l (n := 3) (u := u) (wf := kwO h ad cI cZ cG cJ o) (rw_ := kwM h2 ad2 cI cZ v) (As := [.ref h, .int (xs (9 * k + 1)), .ref o]) (rest := []) hx hb hml hown hB hK hI hA hE hZ (CL_count l hl0 D cI cZ cG cJ h ad o H.size u P n hst (xs (9 * k + 1))) (kgS kw_265 kw_266 kw_0 kw_267) (by decide +kernel) ⟨Nat.le_of_ble_eq_true rfl, Nat.le_of_ble_eq_true rfl⟩ rfl hl.1 (Nat.le_of_ble_eq_true rfl) dL_law_734 ⟨show 100 + 2 * k + 2 ≤ 601024 by omega, show 10000 + 12 * k + 12 ≤ 7293034 by omega⟩ rfl (fun ra xa H locs hq hI => ?_)
        obtain ⟨c1, hrc, ho, hs2⟩ := hq
        rw [hrc]
        refine lv_istore hx hb dL_law_737 hl (by decide) rfl (fun ls hl => ?_)
        have hl : lv_has ls 7 [(5, .int (nI c1)), (4, .int (nI (9 * k))), (3, .ref o), (2, .ref h2), (1, .ref h), (0, .ref b)] := hl
        refine lv_aload_n hx hb dL_law_739 rfl (lv_at hl 3 rfl) ?_
        refine lv_aload_n hx hb dL_law_740 rfl (lv_at hl 5 rfl) ?_
        refine lv_iload hx hb dL_law_741 (lv_at hl 1 rfl) ?_
        refine lv_iconst (v := nI 1) hx hb dL_law_743 (by decide) ?_
        refine k_iadd (v := nI (9 * k + 1)) hx hb (nI_add _ _) dL_law_744 ?_
        refine kL_ld hx hb hX hbl hbA hI (9 * k + 1) (by omega) (by omega) rfl dL_law_745 ?_
        refine kcall_fi (n := 1) (u := v) (wf := kwM h2 ad2 cI cZ) (rw_ := kwO h ad cI cZ cG cJ o xa) (As := [.int (xs (9 * k + 1))]) (b := h2) (rest := []) hx hb hml hown hB (ktz_c hK) hI hA hE hZ (C1_count l D cI cZ cG h2 ad2 H.size v P n hsm (xs (9 * k + 1))) (kgV kw_403 kw_404 ks1_count kw_2 kw_406) (by decide +kernel) ⟨Nat.le_of_ble_eq_true rfl, Nat.le_of_ble_eq_true rfl⟩ (va_recv (q0 := 0) (ci := 1) hK (kI_l (kI_swap hI)).1 rfl rfl) rfl hl.1 (Nat.le_of_ble_eq_true rfl) dL_law_746 ⟨show 100 + 2 * k + 2 + 0 ≤ 601024 by omega, show 10000 + 12 * k + 12 + 0 ≤ 7293034 by omega⟩ rfl (fun rb v2 H locs hq2 hI => ?_)
        obtain ⟨c2, ho2, he2, hs3⟩ := hq2
        have hcl := oN_le ho
        obtain ⟨ec, ea⟩ := oN_fun ho ho2
        subst ec
        refine lv_istore hx hb dL_law_749 hl (by decide) rfl (fun ls hl => ?_)
        have hl : lv_has ls 7 [(6, .int rb), (5, .int (nI c1)), (4, .int (nI (9 * k))), (3, .ref o), (2, .ref h2), (1, .ref h), (0, .ref b)] := hl
        refine lv_aload_n hx hb dL_law_751 rfl (lv_at hl 4 rfl) ?_
        refine kcall_fi (n := 0) (u := v2) (wf := kwM h2 ad2 cI cZ) (rw_ := kwO h ad cI cZ cG cJ o xa) (As := []) (b := h2) (rest := []) hx hb hml hown hB (ktz_c hK) hI hA hE hZ (C1_thrown l D cI cZ cG h2 ad2 H.size v2) (kgV kw_333 kw_334 ks1_thrown kw_2 kw_336) (by decide +kernel) ⟨Nat.le_of_ble_eq_true rfl, Nat.le_of_ble_eq_true rfl⟩ (va_recv (q0 := 0) (ci := 1) hK (kI_l (kI_swap hI)).1 rfl rfl) rfl hl.1 (Nat.le_of_ble_eq_true rfl) dL_law_752 ⟨show 100 + 2 * k + 2 + 0 ≤ 601024 by omega, show 10000 + 12 * k + 12 + 0 ≤ 7293034 by omega⟩ rfl (fun rt v3 H locs hq3 hI => ?_)
        obtain ⟨hv3, hx3⟩ := hq3
        rw [hx3] at hI
        rw [hv3, he2]
        refine lv_iload hx hb dL_law_755 (lv_at hl 1 rfl) ?_
        refine lv_icmp_eq (tgt := 762) hx hb dL_law_757 (by decide) (fun hc => ?_) (fun hc => absurd rfl hc)
        refine lv_iload hx hb dL_law_762 (lv_at hl 1 rfl) ?_
        refine lv_if_ne (tgt := 779) hx hb dL_law_764 (by decide) (fun hc => ?_) (fun hc => ?_)
        · skip
          refine lv_goto (tgt := 782) hx hb dL_law_779 (by decide) ?_
          refine lv_iinc (k := 2) (v := nI (9 * (k + 1))) hx hb dL_law_782 hl rfl (by rw [show Int32.ofInt 9 = nI 9 by decide, nI_add, show 9 * k + 9 = 9 * (k + 1) by omega]) (by decide) rfl (fun ls hl => ?_)
          have hl : lv_has ls 7 [(4, .int (nI (9 * (k + 1)))), (6, .int rb), (5, .int (nI c1)), (3, .ref o), (2, .ref h2), (1, .ref h), (0, .ref b)] := hl
          refine lv_goto (tgt := 23) hx hb dL_law_785 (by decide) ?_
          have e1 : 100 + 2 * k + 2 + 0 + 0 = 100 + 2 * (k + 1) := by omega
          have e2 : 10000 + 12 * k + 12 + 0 + 0 = 10000 + 12 * (k + 1) := by omega
          exact W.widen (Nat.le_of_eq e1) (Nat.le_of_eq e2) (ih ls H locs (k + 1) xa v2 P n (by omega) (by omega) hs2 hs3 (lv_sub hl [0, 3, 4, 5, 6] rfl) hI)
        · skip
          have he0 := ea (knI_z (by omega) hc)
          refine lv_aload_n hx hb dL_law_767 rfl (lv_at hl 3 rfl) ?_
          refine lv_iconst (v := nI 0) hx hb dL_law_768 (by decide) ?_
          refine kO_l hx hb hK hI dL_law_769 ?_
          rw [he0]
          refine lv_iload hx hb dL_law_770 (lv_at hl 0 rfl) ?_
          refine lv_i2l (v := rb.toInt64) hx hb dL_law_772 rfl ?_
          refine W.lcmp hx hb dL_law_773 ?_
          rw [lg_self]
          refine lv_if_eq (tgt := 779) hx hb dL_law_774 (by decide) (fun hc => ?_) (fun hc => absurd rfl hc)
          refine lv_goto (tgt := 782) hx hb dL_law_779 (by decide) ?_
          refine lv_iinc (k := 2) (v := nI (9 * (k + 1))) hx hb dL_law_782 hl rfl (by rw [show Int32.ofInt 9 = nI 9 by decide, nI_add, show 9 * k + 9 = 9 * (k + 1) by omega]) (by decide) rfl (fun ls hl => ?_)
          have hl : lv_has ls 7 [(4, .int (nI (9 * (k + 1)))), (6, .int rb), (5, .int (nI c1)), (3, .ref o), (2, .ref h2), (1, .ref h), (0, .ref b)] := hl
          refine lv_goto (tgt := 23) hx hb dL_law_785 (by decide) ?_
          have e1 : 100 + 2 * k + 2 + 0 + 0 = 100 + 2 * (k + 1) := by omega
          have e2 : 10000 + 12 * k + 12 + 0 + 0 = 10000 + 12 * (k + 1) := by omega
          exact W.widen (Nat.le_of_eq e1) (Nat.le_of_eq e2) (ih ls H locs (k + 1) xa v2 P n (by omega) (by omega) hs2 hs3 (lv_sub hl [0, 3, 4, 5, 6] rfl) hI)
