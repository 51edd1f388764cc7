/-! the model's state; what the calls of both answer -/
theorem kb_narrow (b : Bool) : narrow .boolean (.int (kb b)) = .int (kb b) := by cases b <;> rfl
def mIn (P : Nat → kIns) (n : Nat) (v : kU) : Prop := v 13 0 = nI n ∧ n ≤ 200 ∧ ∀ i, i < n → mt_ok (P i) ∧ v 0 i = nI (mt_t (P i)) ∧ v 1 i = nI (mt_g (P i)) ∧ v 2 i = mt_r (P i) ∧ v 3 i = nI (mt_l (P i)) ∧ v 4 i = nI (mt_w (P i)) ∧ v 5 i = kb (mt_ld (P i)) ∧ v 6 i = kb (mt_wr (P i))
def mRow (P : Nat → kIns) (i : Nat) (v : kU) : Prop := v 7 i = nI (mt_tm P i).1 ∧ v 8 i = nI (mt_tm P i).2.1 ∧ v 9 i = nI (mt_tm P i).2.2.1 ∧ v 10 i = nI (mt_tm P i).2.2.2.1 ∧ v 11 i = nI (mt_tm P i).2.2.2.2
def mSt (P : Nat → kIns) (n : Nat) (v : kU) : Prop := mIn P n v ∧ ∃ kn, kn ≤ n ∧ v 14 0 = nI kn ∧ ∀ i, i < kn → mRow P i v
def mAll (P : Nat → kIns) (n : Nat) (v : kU) : Prop := mIn P n v ∧ v 14 0 = nI n ∧ ∀ i, i < n → mRow P i v
theorem mAll.st {P : Nat → kIns} {n : Nat} {v : kU} (h : mAll P n v) : mSt P n v := ⟨h.1, n, Nat.le_refl _, h.2.1, h.2.2⟩
def mK (P : Nat → kIns) (n k : Nat) (u x : kU) : Prop := mIn P n x ∧ (∀ j, j < k → mRow P j x) ∧ x 14 0 = nI k ∧ x 12 = u 12
theorem mIn_of {P : Nat → kIns} {n : Nat} {u x : kU} (hx : ∀ j, j < 7 ∨ j = 13 → x j = u j) (h : mIn P n u) : mIn P n x := by
  obtain ⟨h1, h2, h3⟩ := h
  refine ⟨by rw [hx 13 (Or.inr rfl)]; exact h1, h2, fun i hi => ?_⟩
  rw [hx 0 (by omega), hx 1 (by omega), hx 2 (by omega), hx 3 (by omega), hx 4 (by omega), hx 5 (by omega), hx 6 (by omega)]
  exact h3 i hi
theorem mRow_of {P : Nat → kIns} {i : Nat} {u x : kU} (hx : ∀ j, 7 ≤ j → j < 12 → x j i = u j i) (h : mRow P i u) : mRow P i x := by
  unfold mRow at *
  rw [hx 7 (by decide) (by decide), hx 8 (by decide) (by decide), hx 9 (by decide) (by decide), hx 10 (by decide) (by decide), hx 11 (by decide) (by decide)]
  exact h
theorem mK_set {P : Nat → kIns} {n k j : Nat} {u x : kU} {v : Int32} (h : mK P n k u x) (h1 : 7 ≤ j) (h2 : j < 12) : mK P n k u (kset x j k v) :=
  ⟨mIn_of (fun b hb => kset_ne (by omega)) h.1, fun b hb => mRow_of (fun a _ _ => kset_off (by omega)) (h.2.1 b hb), by rw [kset_ne (by omega)]; exact h.2.2.1, by rw [kset_ne (by omega)]; exact h.2.2.2⟩
theorem mK_step {P : Nat → kIns} {n k : Nat} {u x : kU} (h : mK P n k u x) (hr : mRow P k x) : mK P n (k + 1) u (knum x 14 (nI (k + 1))) := by
  refine ⟨h.1, fun j hj => ?_, rfl, h.2.2.2⟩
  show mRow P j x
  by_cases e : j = k
  · rw [e]; exact hr
  · exact h.2.1 j (by omega)
theorem mt_X_rd (P : Nat → kIns) (i : Nat) : (mt_tm P i).2.2.1 = mt_rd P (mt_tm P) i (max ((mt_tm P i).2.1 + 1) (mt_pv i (fun j => (mt_tm P j).2.2.2.1))) 15 := by
  rw [mt_tm_eq P i]
  rfl
theorem mt_M_0 {P : Nat → kIns} {i : Nat} (h : mt_l (P i) = 0) : (mt_tm P i).2.2.2.1 = max ((mt_tm P i).2.2.1 + mt_t (P i) - 1 + 1) (mt_pv i (fun j => (mt_tm P j).2.2.2.2)) := by
  have h1 := mt_M_eq P i
  unfold mt_lt mt_xe at h1
  rw [if_pos h] at h1
  omega
theorem mt_M_1 {P : Nat → kIns} {i : Nat} (h : mt_l (P i) ≠ 0) : (mt_tm P i).2.2.2.1 = max (max ((mt_tm P i).2.2.1 + mt_t (P i) - 1 + 1) (mt_pv i (fun j => (mt_tm P j).2.2.2.2))) (mt_beh P (mt_tm P) i (mt_l (P i))) := by
  have h1 := mt_M_eq P i
  unfold mt_lt mt_xe at h1
  rw [if_neg h] at h1
  exact h1
theorem mt_W_eq (P : Nat → kIns) (i : Nat) : (mt_tm P i).2.2.2.2 = (mt_tm P i).2.2.2.1 + mt_w (P i) + 1 := by
  rw [mt_tm_eq P i]
  rfl
theorem knI_le0 {i : Nat} (hi : i < 2 ^ 31) (h : nI i ≤ 0) : i = 0 := by
  have := (nI_leI hi (by decide)).mp (show nI i ≤ nI 0 by rw [nI_0]; exact h)
  omega
theorem mSt_err {P : Nat → kIns} {n : Nat} {u : kU} {x : Int32} (h : mSt P n u) : mSt P n (knum u 12 x) := h
theorem mSt_cut {P : Nat → kIns} {n k : Nat} {u : kU} {x : Int32} (h : mSt P n u) (hk : k ≤ n) : mSt P k (knum (knum u 13 (nI k)) 14 (nI 0)) := by
  have h0 := h.1.2.1
  exact ⟨⟨rfl, by omega, fun i hi => h.1.2.2 i (by omega)⟩, 0, Nat.zero_le _, rfl, fun i hi => absurd hi (Nat.not_lt_zero _)⟩
def mput (u : kU) (k : Nat) (vt vg vr vl : Int32) (ld : Bool) (vw : Int32) (wr : Bool) : kU := knum (kset (kset (kset (kset (kset (kset (kset u 0 k vt) 1 k vg) 2 k vr) 3 k vl) 5 k (kb ld)) 4 k vw) 6 k (kb wr)) 14 (nI 0)
theorem mput_at {u : kU} {k : Nat} {vt vg vr vl : Int32} {ld : Bool} {vw : Int32} {wr : Bool} : mput u k vt vg vr vl ld vw wr 0 k = vt ∧ mput u k vt vg vr vl ld vw wr 1 k = vg ∧ mput u k vt vg vr vl ld vw wr 2 k = vr ∧ mput u k vt vg vr vl ld vw wr 3 k = vl ∧ mput u k vt vg vr vl ld vw wr 4 k = vw ∧ mput u k vt vg vr vl ld vw wr 5 k = kb ld ∧ mput u k vt vg vr vl ld vw wr 6 k = kb wr := by
  unfold mput knum kset
  simp [va_up, upd]
theorem mput_off {u : kU} {k : Nat} {vt vg vr vl : Int32} {ld : Bool} {vw : Int32} {wr : Bool} {j a : Nat} (hj : j < 14) (h : a ≠ k) : mput u k vt vg vr vl ld vw wr j a = u j a := by
  unfold mput knum
  rw [va_up_ne _ _ (by omega)]
  simp only [kset_off h]
theorem mput_hi {u : kU} {k : Nat} {vt vg vr vl : Int32} {ld : Bool} {vw : Int32} {wr : Bool} {j : Nat} (h : 7 ≤ j) (h2 : j < 14) : mput u k vt vg vr vl ld vw wr j = u j := by
  unfold mput knum
  rw [va_up_ne _ _ (by omega), kset_ne (by omega), kset_ne (by omega), kset_ne (by omega), kset_ne (by omega), kset_ne (by omega), kset_ne (by omega), kset_ne (by omega)]
theorem mSt_put {P : Nat → kIns} {m k : Nat} {u : kU} {vt vg vr vl : Int32} {ld : Bool} {vw : Int32} {wr : Bool} (hf : kFit vt vg vl vw) (hm : m ≤ 200) (hz : u 13 0 = nI m) (h : ∀ i, i < m → i ≠ k → mt_ok (P i) ∧ u 0 i = nI (mt_t (P i)) ∧ u 1 i = nI (mt_g (P i)) ∧ u 2 i = mt_r (P i) ∧ u 3 i = nI (mt_l (P i)) ∧ u 4 i = nI (mt_w (P i)) ∧ u 5 i = kb (mt_ld (P i)) ∧ u 6 i = kb (mt_wr (P i))) : mSt (mt_upd P k (kmk vt vg vr vl ld vw wr)) m (mput u k vt vg vr vl ld vw wr) := by
  refine ⟨⟨by rw [mput_hi (by decide) (by decide)]; exact hz, hm, fun i hi => ?_⟩, 0, Nat.zero_le _, rfl, fun i hi => absurd hi (Nat.not_lt_zero _)⟩
  by_cases e : i = k
  · subst e
    obtain ⟨a1, a2, a3, a4, a5⟩ := kFit_mk hf vr ld wr
    obtain ⟨b0, b1, b2, b3, b4, b5, b6⟩ := mput_at (u := u) (k := i) (vt := vt) (vg := vg) (vr := vr) (vl := vl) (ld := ld) (vw := vw) (wr := wr)
    rw [mt_upd_s]
    exact ⟨a1, b0.trans a2, b1.trans a3, b2, b3.trans a4, b4.trans a5, b5, b6⟩
  · rw [mt_upd_n e]
    rw [mput_off (by decide) e, mput_off (by decide) e, mput_off (by decide) e, mput_off (by decide) e, mput_off (by decide) e, mput_off (by decide) e, mput_off (by decide) e]
    exact h i hi e
/-! the outcome of a call: its code (0: answered; 1, 2: the first, the second exception of its heading), its answer, the state behind it -/
def oA (P : Nat → kIns) (n : Nat) (vt vg vr vl : Int32) (ld : Bool) (vw : Int32) (wr : Bool) (c : Nat) (a : Int32) (P' : Nat → kIns) (n' : Nat) : Prop := (c = 1 ∧ ¬ kFit vt vg vl vw ∧ P' = P ∧ n' = n) ∨ (c = 2 ∧ kFit vt vg vl vw ∧ n = 200 ∧ P' = P ∧ n' = n) ∨ (c = 0 ∧ kFit vt vg vl vw ∧ n < 200 ∧ a = nI n ∧ P' = mt_upd P n (kmk vt vg vr vl ld vw wr) ∧ n' = n + 1)
def oC (P : Nat → kIns) (n : Nat) (vk vt vg vr vl : Int32) (ld : Bool) (vw : Int32) (wr : Bool) (c : Nat) (P' : Nat → kIns) : Prop := (c = 1 ∧ ¬ kFit vt vg vl vw ∧ P' = P) ∨ (c = 2 ∧ kFit vt vg vl vw ∧ ¬ kIx vk n ∧ P' = P) ∨ (c = 0 ∧ kFit vt vg vl vw ∧ ∃ k, k < n ∧ vk = nI k ∧ P' = mt_upd P k (kmk vt vg vr vl ld vw wr))
def oT (n : Nat) (vn : Int32) (c : Nat) (a : Int32) (n' : Nat) : Prop := (c = 1 ∧ ¬ kIx vn (n + 1) ∧ n' = n) ∨ (c = 0 ∧ a = nI n ∧ n' < n + 1 ∧ vn = nI n')
def oW (P : Nat → kIns) (n : Nat) (vk vw : Int32) (c : Nat) (a : Int32) : Prop := (c = 1 ∧ ¬ kIx vw 7) ∨ (c = 2 ∧ kIx vw 7 ∧ ¬ kIx vk n) ∨ (c = 0 ∧ ∃ k j, k < n ∧ vk = nI k ∧ j < 7 ∧ vw = nI j ∧ a = nI (mt_when P k j))
def oI (P : Nat → kIns) (n : Nat) (vs cy : Int32) (c : Nat) (a : Int32) : Prop := (c = 1 ∧ ¬ kIx vs 5) ∨ (c = 0 ∧ ∃ st, st < 5 ∧ vs = nI st ∧ a = mt_scan (mt_hit P st cy) n 0)
def oH (P : Nat → kIns) (n : Nat) (vk : Int32) (c : Nat) (a : Int32) : Prop := (c = 1 ∧ ¬ kIx vk n) ∨ (c = 0 ∧ ∃ k, k < n ∧ vk = nI k ∧ a = nI ((mt_tm P k).2.2.1 - ((mt_tm P k).2.1 + 1)))
def oG (P : Nat → kIns) (n : Nat) (vk vr : Int32) (c : Nat) (a : Int32) : Prop := (c = 1 ∧ ¬ kReg vr) ∨ (c = 2 ∧ kReg vr ∧ ¬ kIx vk n) ∨ (c = 0 ∧ ∃ k r, k < n ∧ vk = nI k ∧ 1 ≤ r ∧ r ≤ 15 ∧ vr = nI r ∧ a = kenc (mt_last P r k))
def oN (P : Nat → kIns) (n : Nat) (vw : Int32) (c : Nat) (a : Int32) : Prop := (c = 1 ∧ ¬ kIx vw 4) ∨ (c = 0 ∧ ∃ j, j < 4 ∧ vw = nI j ∧ a = nI (mt_cnt P n j))
theorem kIx_k {x : Int32} {n k : Nat} (hk : k < n) (e : x = nI k) : kIx x n := ⟨k, hk, e⟩
theorem nI_inj {a b : Nat} (ha : a < 2 ^ 31) (hb : b < 2 ^ 31) {x : Int32} (h1 : x = nI a) (h2 : x = nI b) : a = b := (nI_eq ha hb).mp (h1.symm.trans h2)
theorem oA_fun {P : Nat → kIns} {n : Nat} {vt vg vr vl : Int32} {ld : Bool} {vw : Int32} {wr : Bool} {c c2 : Nat} {a a2 : Int32} {P1 P2 : Nat → kIns} {n1 n2 : Nat} (h1 : oA P n vt vg vr vl ld vw wr c a P1 n1) (h2 : oA P n vt vg vr vl ld vw wr c2 a2 P2 n2) : c = c2 ∧ P1 = P2 ∧ n1 = n2 ∧ (c = 0 → a = a2) := by
  rcases h1 with ⟨rfl, h, rfl, rfl⟩ | ⟨rfl, h, hn, rfl, rfl⟩ | ⟨rfl, h, hn, rfl, rfl, rfl⟩ <;> rcases h2 with ⟨rfl, k, rfl, rfl⟩ | ⟨rfl, k, kn, rfl, rfl⟩ | ⟨rfl, k, kn, rfl, rfl, rfl⟩ <;> first | exact ⟨rfl, rfl, rfl, fun _ => rfl⟩ | exact ⟨rfl, rfl, rfl, fun q => by omega⟩ | exact absurd k h | exact absurd h k | (exfalso; omega)
theorem oC_fun {P : Nat → kIns} {n : Nat} (hn : n ≤ 200) {vk vt vg vr vl : Int32} {ld : Bool} {vw : Int32} {wr : Bool} {c c2 : Nat} {P1 P2 : Nat → kIns} (h1 : oC P n vk vt vg vr vl ld vw wr c P1) (h2 : oC P n vk vt vg vr vl ld vw wr c2 P2) : c = c2 ∧ P1 = P2 := by
  rcases h1 with ⟨rfl, h, rfl⟩ | ⟨rfl, h, hk, rfl⟩ | ⟨rfl, h, k, hk, e, rfl⟩ <;> rcases h2 with ⟨rfl, g, rfl⟩ | ⟨rfl, g, gk, rfl⟩ | ⟨rfl, g, j, gk, f, rfl⟩ <;> first | exact ⟨rfl, rfl⟩ | exact absurd g h | exact absurd h g | exact absurd (kIx_k gk f) hk | exact absurd (kIx_k hk e) gk | (obtain rfl := nI_inj (by omega) (by omega) e f; exact ⟨rfl, rfl⟩)
theorem oT_fun {n : Nat} (hn : n ≤ 200) {vn : Int32} {c c2 : Nat} {a a2 : Int32} {n1 n2 : Nat} (h1 : oT n vn c a n1) (h2 : oT n vn c2 a2 n2) : c = c2 ∧ n1 = n2 ∧ (c = 0 → a = a2) := by
  rcases h1 with ⟨rfl, h, rfl⟩ | ⟨rfl, rfl, h, e⟩ <;> rcases h2 with ⟨rfl, g, rfl⟩ | ⟨rfl, rfl, g, f⟩
  · exact ⟨rfl, rfl, fun q => by omega⟩
  · exact absurd (kIx_k g f) h
  · exact absurd (kIx_k h e) g
  · obtain rfl := nI_inj (by omega) (by omega) e f
    exact ⟨rfl, rfl, fun _ => rfl⟩
theorem oW_fun {P : Nat → kIns} {n : Nat} (hn : n ≤ 200) {vk vw : Int32} {c c2 : Nat} {a a2 : Int32} (h1 : oW P n vk vw c a) (h2 : oW P n vk vw c2 a2) : c = c2 ∧ (c = 0 → a = a2) := by
  rcases h1 with ⟨rfl, h⟩ | ⟨rfl, h, hk⟩ | ⟨rfl, k, j, hk, e, hj, f, rfl⟩ <;> rcases h2 with ⟨rfl, g⟩ | ⟨rfl, g, gk⟩ | ⟨rfl, k2, j2, gk, e2, gj, f2, rfl⟩ <;> first | exact ⟨rfl, fun q => by omega⟩ | exact absurd g h | exact absurd h g | exact absurd (kIx_k gj f2) h | exact absurd (kIx_k hj f) g | exact absurd (kIx_k gk e2) hk | exact absurd (kIx_k hk e) gk | (obtain rfl := nI_inj (by omega) (by omega) e e2; obtain rfl := nI_inj (by omega) (by omega) f f2; exact ⟨rfl, fun _ => rfl⟩)
theorem oI_fun {P : Nat → kIns} {n : Nat} {vs cy : Int32} {c c2 : Nat} {a a2 : Int32} (h1 : oI P n vs cy c a) (h2 : oI P n vs cy c2 a2) : c = c2 ∧ (c = 0 → a = a2) := by
  rcases h1 with ⟨rfl, h⟩ | ⟨rfl, k, hk, e, rfl⟩ <;> rcases h2 with ⟨rfl, g⟩ | ⟨rfl, k2, gk, e2, rfl⟩ <;> first | exact ⟨rfl, fun q => by omega⟩ | exact absurd (kIx_k gk e2) h | exact absurd (kIx_k hk e) g | (obtain rfl := nI_inj (by omega) (by omega) e e2; exact ⟨rfl, fun _ => rfl⟩)
theorem oH_fun {P : Nat → kIns} {n : Nat} (hn : n ≤ 200) {vk : Int32} {c c2 : Nat} {a a2 : Int32} (h1 : oH P n vk c a) (h2 : oH P n vk c2 a2) : c = c2 ∧ (c = 0 → a = a2) := by
  rcases h1 with ⟨rfl, h⟩ | ⟨rfl, k, hk, e, rfl⟩ <;> rcases h2 with ⟨rfl, g⟩ | ⟨rfl, k2, gk, e2, rfl⟩ <;> first | exact ⟨rfl, fun q => by omega⟩ | exact absurd (kIx_k gk e2) h | exact absurd (kIx_k hk e) g | (obtain rfl := nI_inj (by omega) (by omega) e e2; exact ⟨rfl, fun _ => rfl⟩)
theorem kReg_k {x : Int32} {r : Nat} (h1 : 1 ≤ r) (h2 : r ≤ 15) (e : x = nI r) : kReg x := ⟨r, h1, h2, e⟩
theorem oG_fun {P : Nat → kIns} {n : Nat} (hn : n ≤ 200) {vk vr : Int32} {c c2 : Nat} {a a2 : Int32} (h1 : oG P n vk vr c a) (h2 : oG P n vk vr c2 a2) : c = c2 ∧ (c = 0 → a = a2) := by
  rcases h1 with ⟨rfl, h⟩ | ⟨rfl, h, hk⟩ | ⟨rfl, k, r, hk, e, r1, r2, f, rfl⟩ <;> rcases h2 with ⟨rfl, g⟩ | ⟨rfl, g, gk⟩ | ⟨rfl, k2, r', gk, e2, s1, s2, f2, rfl⟩ <;> first | exact ⟨rfl, fun q => by omega⟩ | exact absurd g h | exact absurd h g | exact absurd (kReg_k s1 s2 f2) h | exact absurd (kReg_k r1 r2 f) g | exact absurd (kIx_k gk e2) hk | exact absurd (kIx_k hk e) gk | (obtain rfl := nI_inj (by omega) (by omega) e e2; obtain rfl := nI_inj (by omega) (by omega) f f2; exact ⟨rfl, fun _ => rfl⟩)
theorem oN_fun {P : Nat → kIns} {n : Nat} {vw : Int32} {c c2 : Nat} {a a2 : Int32} (h1 : oN P n vw c a) (h2 : oN P n vw c2 a2) : c = c2 ∧ (c = 0 → a = a2) := by
  rcases h1 with ⟨rfl, h⟩ | ⟨rfl, k, hk, e, rfl⟩ <;> rcases h2 with ⟨rfl, g⟩ | ⟨rfl, k2, gk, e2, rfl⟩ <;> first | exact ⟨rfl, fun q => by omega⟩ | exact absurd (kIx_k gk e2) h | exact absurd (kIx_k hk e) g | (obtain rfl := nI_inj (by omega) (by omega) e e2; exact ⟨rfl, fun _ => rfl⟩)
theorem kdec2 {L i : Nat} (h : i + 1 ≤ L) : nI (L - i) + Int32.ofInt (-1) = nI (L - (i + 1)) := by
  rw [kdec]
  exact (pk_sub (by omega)).trans (by rw [show L - i - 1 = L - (i + 1) by omega])
theorem mt_W_lw {P : Nat → kIns} {n i : Nat} (h : i < n) : (mt_tm P i).2.2.2.2 ≤ mt_lw P n := by
  unfold mt_lw mt_pv
  rw [if_neg (by omega)]
  exact mt_W_mono (by omega)
