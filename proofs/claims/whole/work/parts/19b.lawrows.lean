/-! rows of the law's own -/
theorem lg_self (x : Int64) : lg_cmp x x = 0 := by
  unfold lg_cmp
  rw [if_neg (by exact Int64.lt_irrefl), if_pos rfl]
theorem klaw {L a : Nat} (hL : L < 2 ^ 30) (ha : a < 2 ^ 31) (h : ¬ nI L - nI 9 < nI a) : a + 9 ≤ L := by
  rw [Int32.lt_iff_toInt_lt, pk_sub_toInt hL (by decide), nI_toInt ha] at h
  omega
theorem klaw2 {L a : Nat} (hL : L < 2 ^ 30) (ha : a < 2 ^ 31) (h : L < a + 9) : nI L - nI 9 < nI a := by
  rw [Int32.lt_iff_toInt_lt, pk_sub_toInt hL (by decide), nI_toInt ha]
  omega
theorem kgI {cd : Cond} (h5 : cd ∈ kBIG) : GoodIn kBIG (cd :: kBIG) := fun w hw => by
  have hm : w ∈ kBIG := by rcases List.mem_cons.mp hw with rfl | hw <;> assumption
  exact ⟨hm, good_of_word (kgood hm)⟩
theorem oA_le {P : Nat → kIns} {n : Nat} {vt vg vr vl : Int32} {ld : Bool} {vw : Int32} {wr : Bool} {c : Nat} {a : Int32} {P1 : Nat → kIns} {n1 : Nat} (h : oA P n vt vg vr vl ld vw wr c a P1 n1) : c ≤ 2 := by rcases h with ⟨rfl, -⟩ | ⟨rfl, -⟩ | ⟨rfl, -⟩ <;> decide
theorem oC_le {P : Nat → kIns} {n : Nat} {vk vt vg vr vl : Int32} {ld : Bool} {vw : Int32} {wr : Bool} {c : Nat} {P1 : Nat → kIns} (h : oC P n vk vt vg vr vl ld vw wr c P1) : c ≤ 2 := by rcases h with ⟨rfl, -⟩ | ⟨rfl, -⟩ | ⟨rfl, -⟩ <;> decide
theorem oT_le {n : Nat} {vn : Int32} {c : Nat} {a : Int32} {n1 : Nat} (h : oT n vn c a n1) : c ≤ 2 := by rcases h with ⟨rfl, -⟩ | ⟨rfl, -⟩ <;> decide
theorem oW_le {P : Nat → kIns} {n : Nat} {vk vw : Int32} {c : Nat} {a : Int32} (h : oW P n vk vw c a) : c ≤ 2 := by rcases h with ⟨rfl, -⟩ | ⟨rfl, -⟩ | ⟨rfl, -⟩ <;> decide
theorem oI_le {P : Nat → kIns} {n : Nat} {vs cy : Int32} {c : Nat} {a : Int32} (h : oI P n vs cy c a) : c ≤ 2 := by rcases h with ⟨rfl, -⟩ | ⟨rfl, -⟩ <;> decide
theorem oH_le {P : Nat → kIns} {n : Nat} {vk : Int32} {c : Nat} {a : Int32} (h : oH P n vk c a) : c ≤ 2 := by rcases h with ⟨rfl, -⟩ | ⟨rfl, -⟩ <;> decide
theorem oG_le {P : Nat → kIns} {n : Nat} {vk vr : Int32} {c : Nat} {a : Int32} (h : oG P n vk vr c a) : c ≤ 2 := by rcases h with ⟨rfl, -⟩ | ⟨rfl, -⟩ | ⟨rfl, -⟩ <;> decide
theorem oN_le {P : Nat → kIns} {n : Nat} {vw : Int32} {c : Nat} {a : Int32} (h : oN P n vw c a) : c ≤ 2 := by rcases h with ⟨rfl, -⟩ | ⟨rfl, -⟩ <;> decide
theorem va_AOA.moved {ty : FieldType} {u U : State} (hvm : u.vm.Alike U.vm) (h : va_AOA ty u) : va_AOA ty U := over_moved hvm h
section KL
variable {p : Program} {l : Launch} {e : Env} {R : Room} {s : State} {m : MethodId} {args : Array Value} {below : List Frame} {meth : Method} {c : Code} {H : Heap} {locs : List Loc} {cells slots : Nat} {Q : State → Prop}
variable {cc : ByteArray} {pc : Nat} {ls : Array Slot} {rest : List Value} {D : va_G} {A : Nat → Prop} {w : va_W}
theorem kL_ld {b L : Nat} {xs : Nat → Int32} {i : Int32} (hx : p.tables.exec = Jvm.exec) (hb : c.code = cc) (hX : va_X b L xs s s.heap) (hbl : b < s.heap.size) (hbA : ¬ A b) (hI : kI D A s.heap w H locs) (j : Nat) (hj : j < L) (hL : L < 2 ^ 31) (he : i = nI j) (hdg : decode cc pc = .ok (.iaload, 1))
    (kk : W p l e R s m args below meth c H locs cells slots Q (F0 m (pc + 1) ls (.int (xs j) :: rest))) : W p l e R s m args below meth c H locs cells slots Q (F0 m pc ls (.int i :: .ref b :: rest)) := by
  subst he
  exact va_sld hx hb hX hbl hbA hI.2.2 (vp_in_nI hj hL) hdg (by rw [nI_clamp (by omega)]; exact kk)
theorem kL_len {b L : Nat} {xs : Nat → Int32} (hx : p.tables.exec = Jvm.exec) (hb : c.code = cc) (hX : va_X b L xs s s.heap) (hbl : b < s.heap.size) (hbA : ¬ A b) (hI : kI D A s.heap w H locs) (hdg : decode cc pc = .ok (.arraylength, 1))
    (kk : W p l e R s m args below meth c H locs cells slots Q (F0 m (pc + 1) ls (.int (nI L) :: rest))) : W p l e R s m args below meth c H locs cells slots Q (F0 m pc ls (.ref b :: rest)) := va_slen hx hb hX hbl hbA hI.2.2 hdg kk
end KL
