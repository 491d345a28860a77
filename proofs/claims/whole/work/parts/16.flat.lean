/-! Flat pictures: a scene as 29 ints, a chart as 55 (place 0 is not the chart's). -/
def nv_fl (I : nw_Me) (a : Nat) : Nat → Int32 := fun i => if i < 2 then I a i else if i < 5 then I (a + 1) (i - 2) else if i < 11 then I (a + 2) (i - 5) else if i < 17 then I (a + 3) (i - 11) else if i < 23 then I (a + 4) (i - 17) else if i < 29 then I (a + 5) (i - 23) else 0
def nv_cf (I : nw_Me) (c : Nat) : Nat → Int32 := fun i => if i < 1 then 0 else if i < 6 then I c (i - 1) else if i < 26 then I (c + 1) (i - 6) else if i < 46 then I (c + 2) (i - 26) else if i < 49 then I (c + 3) (i - 46) else if i < 55 then I (c + 4) (i - 49) else 0
/-- all cells but n from a on are as they were -/
def nv_fr (I I' : nw_Me) (a n : Nat) : Prop := ∀ k, k < a ∨ a + n ≤ k → I' k = I k
theorem nv_fr.refl (I : nw_Me) (a n : Nat) : nv_fr I I a n := fun _ _ => rfl
theorem nv_fr.trans {I I1 I2 : nw_Me} {a n : Nat} (h1 : nv_fr I I1 a n) (h2 : nv_fr I1 I2 a n) : nv_fr I I2 a n := fun k hk => (h2 k hk).trans (h1 k hk)
theorem nv_fr.up {I I1 : nw_Me} {a n k i : Nat} {v : Int32} (h : nv_fr I I1 a n) (h1 : a ≤ k) (h2 : k < a + n) : nv_fr I (nw_up I1 k i v) a n := fun q hq => by rw [nw_up_ne (by omega)]; exact h q hq
theorem nv_fr.cp {I I1 : nw_Me} {a n j sp k dp m : Nat} (h : nv_fr I I1 a n) (h1 : a ≤ k) (h2 : k < a + n) : nv_fr I (nw_cp I1 j sp k dp m) a n := fun q hq => by show (if q = k then _ else I1 q) = _; rw [if_neg (by omega)]; exact h q hq
theorem nv_fl_ext {I I' : nw_Me} {a : Nat} (h : ∀ k, a ≤ k → k < a + 6 → I' k = I k) : nv_fl I' a = nv_fl I a := by
  funext i
  unfold nv_fl
  rw [h a (by omega) (by omega), h (a + 1) (by omega) (by omega), h (a + 2) (by omega) (by omega), h (a + 3) (by omega) (by omega), h (a + 4) (by omega) (by omega), h (a + 5) (by omega) (by omega)]
theorem nv_cf_ext {I I' : nw_Me} {c : Nat} (h : ∀ k, c ≤ k → k < c + 5 → I' k = I k) : nv_cf I' c = nv_cf I c := by
  funext i
  unfold nv_cf
  rw [h c (by omega) (by omega), h (c + 1) (by omega) (by omega), h (c + 2) (by omega) (by omega), h (c + 3) (by omega) (by omega), h (c + 4) (by omega) (by omega)]
theorem nv_fr.fl {I I' : nw_Me} {a n b : Nat} (h : nv_fr I I' a n) (hb : b + 6 ≤ a ∨ a + n ≤ b) : nv_fl I' b = nv_fl I b := nv_fl_ext (fun k h1 h2 => h k (by omega))
theorem nv_fr.cf {I I' : nw_Me} {a n b : Nat} (h : nv_fr I I' a n) (hb : b + 5 ≤ a ∨ a + n ≤ b) : nv_cf I' b = nv_cf I b := nv_cf_ext (fun k h1 h2 => h k (by omega))
theorem fl_w (I : nw_Me) (a : Nat) {t : Nat} (h : t < 2) : nv_fl I a t = I a t := by
  unfold nv_fl
  rw [ if_pos (by omega)]
theorem fl_w_up (I : nw_Me) (a : Nat) {t : Nat} (h : t < 2) (v : Int32) : nv_fl (nw_up I a t v) a = upd (nv_fl I a) t v := by
  funext i
  by_cases hi : i = t
  · subst hi
    rw [fl_w _ _ h]
    simp [nw_up, upd]
  · have e : upd (nv_fl I a) t v i = nv_fl I a i := by simp [upd, hi]
    rw [e]
    unfold nv_fl
    simp only [nw_up_ne (show a + 1 ≠ a by omega), nw_up_ne (show a + 2 ≠ a by omega), nw_up_ne (show a + 3 ≠ a by omega), nw_up_ne (show a + 4 ≠ a by omega), nw_up_ne (show a + 5 ≠ a by omega), nw_up_self]
    by_cases h1 : 0 ≤ i ∧ i < 2
    · rw [if_pos (by omega), if_pos (by omega)]
      unfold upd
      rw [if_neg (by omega)]
    · split
      · exfalso; omega
      rfl
theorem fl_cnt (I : nw_Me) (a : Nat) {t : Nat} (h : t < 3) : nv_fl I a (2 + t) = I (a + 1) t := by
  unfold nv_fl
  rw [if_neg (by omega), if_pos (by omega)]
  congr 1
  omega
theorem fl_cnt_up (I : nw_Me) (a : Nat) {t : Nat} (h : t < 3) (v : Int32) : nv_fl (nw_up I (a + 1) t v) a = upd (nv_fl I a) (2 + t) v := by
  funext i
  by_cases hi : i = (2 + t)
  · subst hi
    rw [fl_cnt _ _ h]
    simp [nw_up, upd]
  · have e : upd (nv_fl I a) (2 + t) v i = nv_fl I a i := by simp [upd, hi]
    rw [e]
    unfold nv_fl
    simp only [nw_up_ne (show a ≠ a + 1 by omega), nw_up_ne (show a + 2 ≠ a + 1 by omega), nw_up_ne (show a + 3 ≠ a + 1 by omega), nw_up_ne (show a + 4 ≠ a + 1 by omega), nw_up_ne (show a + 5 ≠ a + 1 by omega), nw_up_self]
    by_cases h1 : 2 ≤ i ∧ i < 5
    · rw [if_neg (by omega), if_pos (by omega), if_neg (by omega), if_pos (by omega)]
      unfold upd
      rw [if_neg (by omega)]
    · split
      · rfl
      split
      · exfalso; omega
      rfl
theorem fl_ord (I : nw_Me) (a : Nat) {t : Nat} (h : t < 6) : nv_fl I a (5 + t) = I (a + 2) t := by
  unfold nv_fl
  rw [if_neg (by omega), if_neg (by omega), if_pos (by omega)]
  congr 1
  omega
theorem fl_ord_up (I : nw_Me) (a : Nat) {t : Nat} (h : t < 6) (v : Int32) : nv_fl (nw_up I (a + 2) t v) a = upd (nv_fl I a) (5 + t) v := by
  funext i
  by_cases hi : i = (5 + t)
  · subst hi
    rw [fl_ord _ _ h]
    simp [nw_up, upd]
  · have e : upd (nv_fl I a) (5 + t) v i = nv_fl I a i := by simp [upd, hi]
    rw [e]
    unfold nv_fl
    simp only [nw_up_ne (show a ≠ a + 2 by omega), nw_up_ne (show a + 1 ≠ a + 2 by omega), nw_up_ne (show a + 3 ≠ a + 2 by omega), nw_up_ne (show a + 4 ≠ a + 2 by omega), nw_up_ne (show a + 5 ≠ a + 2 by omega), nw_up_self]
    by_cases h1 : 5 ≤ i ∧ i < 11
    · rw [if_neg (by omega), if_neg (by omega), if_pos (by omega), if_neg (by omega), if_neg (by omega), if_pos (by omega)]
      unfold upd
      rw [if_neg (by omega)]
    · split
      · rfl
      split
      · rfl
      split
      · exfalso; omega
      rfl
theorem fl_hee (I : nw_Me) (a : Nat) {t : Nat} (h : t < 6) : nv_fl I a (11 + t) = I (a + 3) t := by
  unfold nv_fl
  rw [if_neg (by omega), if_neg (by omega), if_neg (by omega), if_pos (by omega)]
  congr 1
  omega
theorem fl_hee_up (I : nw_Me) (a : Nat) {t : Nat} (h : t < 6) (v : Int32) : nv_fl (nw_up I (a + 3) t v) a = upd (nv_fl I a) (11 + t) v := by
  funext i
  by_cases hi : i = (11 + t)
  · subst hi
    rw [fl_hee _ _ h]
    simp [nw_up, upd]
  · have e : upd (nv_fl I a) (11 + t) v i = nv_fl I a i := by simp [upd, hi]
    rw [e]
    unfold nv_fl
    simp only [nw_up_ne (show a ≠ a + 3 by omega), nw_up_ne (show a + 1 ≠ a + 3 by omega), nw_up_ne (show a + 2 ≠ a + 3 by omega), nw_up_ne (show a + 4 ≠ a + 3 by omega), nw_up_ne (show a + 5 ≠ a + 3 by omega), nw_up_self]
    by_cases h1 : 11 ≤ i ∧ i < 17
    · rw [if_neg (by omega), if_neg (by omega), if_neg (by omega), if_pos (by omega), if_neg (by omega), if_neg (by omega), if_neg (by omega), if_pos (by omega)]
      unfold upd
      rw [if_neg (by omega)]
    · split
      · rfl
      split
      · rfl
      split
      · rfl
      split
      · exfalso; omega
      rfl
theorem fl_fat (I : nw_Me) (a : Nat) {t : Nat} (h : t < 6) : nv_fl I a (17 + t) = I (a + 4) t := by
  unfold nv_fl
  rw [if_neg (by omega), if_neg (by omega), if_neg (by omega), if_neg (by omega), if_pos (by omega)]
  congr 1
  omega
theorem fl_fat_up (I : nw_Me) (a : Nat) {t : Nat} (h : t < 6) (v : Int32) : nv_fl (nw_up I (a + 4) t v) a = upd (nv_fl I a) (17 + t) v := by
  funext i
  by_cases hi : i = (17 + t)
  · subst hi
    rw [fl_fat _ _ h]
    simp [nw_up, upd]
  · have e : upd (nv_fl I a) (17 + t) v i = nv_fl I a i := by simp [upd, hi]
    rw [e]
    unfold nv_fl
    simp only [nw_up_ne (show a ≠ a + 4 by omega), nw_up_ne (show a + 1 ≠ a + 4 by omega), nw_up_ne (show a + 2 ≠ a + 4 by omega), nw_up_ne (show a + 3 ≠ a + 4 by omega), nw_up_ne (show a + 5 ≠ a + 4 by omega), nw_up_self]
    by_cases h1 : 17 ≤ i ∧ i < 23
    · rw [if_neg (by omega), if_neg (by omega), if_neg (by omega), if_neg (by omega), if_pos (by omega), if_neg (by omega), if_neg (by omega), if_neg (by omega), if_neg (by omega), if_pos (by omega)]
      unfold upd
      rw [if_neg (by omega)]
    · split
      · rfl
      split
      · rfl
      split
      · rfl
      split
      · rfl
      split
      · exfalso; omega
      rfl
theorem fl_cro (I : nw_Me) (a : Nat) {t : Nat} (h : t < 6) : nv_fl I a (23 + t) = I (a + 5) t := by
  unfold nv_fl
  rw [if_neg (by omega), if_neg (by omega), if_neg (by omega), if_neg (by omega), if_neg (by omega), if_pos (by omega)]
  congr 1
  omega
theorem fl_cro_up (I : nw_Me) (a : Nat) {t : Nat} (h : t < 6) (v : Int32) : nv_fl (nw_up I (a + 5) t v) a = upd (nv_fl I a) (23 + t) v := by
  funext i
  by_cases hi : i = (23 + t)
  · subst hi
    rw [fl_cro _ _ h]
    simp [nw_up, upd]
  · have e : upd (nv_fl I a) (23 + t) v i = nv_fl I a i := by simp [upd, hi]
    rw [e]
    unfold nv_fl
    simp only [nw_up_ne (show a ≠ a + 5 by omega), nw_up_ne (show a + 1 ≠ a + 5 by omega), nw_up_ne (show a + 2 ≠ a + 5 by omega), nw_up_ne (show a + 3 ≠ a + 5 by omega), nw_up_ne (show a + 4 ≠ a + 5 by omega), nw_up_self]
    by_cases h1 : 23 ≤ i ∧ i < 29
    · rw [if_neg (by omega), if_neg (by omega), if_neg (by omega), if_neg (by omega), if_neg (by omega), if_pos (by omega), if_neg (by omega), if_neg (by omega), if_neg (by omega), if_neg (by omega), if_neg (by omega), if_pos (by omega)]
      unfold upd
      rw [if_neg (by omega)]
    · split
      · rfl
      split
      · rfl
      split
      · rfl
      split
      · rfl
      split
      · rfl
      split
      · exfalso; omega
      rfl
theorem cf_f (I : nw_Me) (c : Nat) {t : Nat} (h : t < 5) : nv_cf I c (1 + t) = I c t := by
  unfold nv_cf
  rw [if_neg (by omega), if_pos (by omega)]
  congr 1
  omega
theorem cf_f_up (I : nw_Me) (c : Nat) {t : Nat} (h : t < 5) (v : Int32) : nv_cf (nw_up I c t v) c = upd (nv_cf I c) (1 + t) v := by
  funext i
  by_cases hi : i = (1 + t)
  · subst hi
    rw [cf_f _ _ h]
    simp [nw_up, upd]
  · have e : upd (nv_cf I c) (1 + t) v i = nv_cf I c i := by simp [upd, hi]
    rw [e]
    unfold nv_cf
    simp only [nw_up_ne (show c + 1 ≠ c by omega), nw_up_ne (show c + 2 ≠ c by omega), nw_up_ne (show c + 3 ≠ c by omega), nw_up_ne (show c + 4 ≠ c by omega), nw_up_self]
    by_cases h1 : 1 ≤ i ∧ i < 6
    · rw [if_neg (by omega), if_pos (by omega), if_neg (by omega), if_pos (by omega)]
      unfold upd
      rw [if_neg (by omega)]
    · split
      · rfl
      split
      · exfalso; omega
      rfl
theorem cf_kin (I : nw_Me) (c : Nat) {t : Nat} (h : t < 20) : nv_cf I c (6 + t) = I (c + 1) t := by
  unfold nv_cf
  rw [if_neg (by omega), if_neg (by omega), if_pos (by omega)]
  congr 1
  omega
theorem cf_kin_up (I : nw_Me) (c : Nat) {t : Nat} (h : t < 20) (v : Int32) : nv_cf (nw_up I (c + 1) t v) c = upd (nv_cf I c) (6 + t) v := by
  funext i
  by_cases hi : i = (6 + t)
  · subst hi
    rw [cf_kin _ _ h]
    simp [nw_up, upd]
  · have e : upd (nv_cf I c) (6 + t) v i = nv_cf I c i := by simp [upd, hi]
    rw [e]
    unfold nv_cf
    simp only [nw_up_ne (show c ≠ c + 1 by omega), nw_up_ne (show c + 2 ≠ c + 1 by omega), nw_up_ne (show c + 3 ≠ c + 1 by omega), nw_up_ne (show c + 4 ≠ c + 1 by omega), nw_up_self]
    by_cases h1 : 6 ≤ i ∧ i < 26
    · rw [if_neg (by omega), if_neg (by omega), if_pos (by omega), if_neg (by omega), if_neg (by omega), if_pos (by omega)]
      unfold upd
      rw [if_neg (by omega)]
    · split
      · rfl
      split
      · rfl
      split
      · exfalso; omega
      rfl
theorem cf_hei (I : nw_Me) (c : Nat) {t : Nat} (h : t < 20) : nv_cf I c (26 + t) = I (c + 2) t := by
  unfold nv_cf
  rw [if_neg (by omega), if_neg (by omega), if_neg (by omega), if_pos (by omega)]
  congr 1
  omega
theorem cf_hei_up (I : nw_Me) (c : Nat) {t : Nat} (h : t < 20) (v : Int32) : nv_cf (nw_up I (c + 2) t v) c = upd (nv_cf I c) (26 + t) v := by
  funext i
  by_cases hi : i = (26 + t)
  · subst hi
    rw [cf_hei _ _ h]
    simp [nw_up, upd]
  · have e : upd (nv_cf I c) (26 + t) v i = nv_cf I c i := by simp [upd, hi]
    rw [e]
    unfold nv_cf
    simp only [nw_up_ne (show c ≠ c + 2 by omega), nw_up_ne (show c + 1 ≠ c + 2 by omega), nw_up_ne (show c + 3 ≠ c + 2 by omega), nw_up_ne (show c + 4 ≠ c + 2 by omega), nw_up_self]
    by_cases h1 : 26 ≤ i ∧ i < 46
    · rw [if_neg (by omega), if_neg (by omega), if_neg (by omega), if_pos (by omega), if_neg (by omega), if_neg (by omega), if_neg (by omega), if_pos (by omega)]
      unfold upd
      rw [if_neg (by omega)]
    · split
      · rfl
      split
      · rfl
      split
      · rfl
      split
      · exfalso; omega
      rfl
theorem cf_see (I : nw_Me) (c : Nat) {t : Nat} (h : t < 3) : nv_cf I c (46 + t) = I (c + 3) t := by
  unfold nv_cf
  rw [if_neg (by omega), if_neg (by omega), if_neg (by omega), if_neg (by omega), if_pos (by omega)]
  congr 1
  omega
theorem cf_see_up (I : nw_Me) (c : Nat) {t : Nat} (h : t < 3) (v : Int32) : nv_cf (nw_up I (c + 3) t v) c = upd (nv_cf I c) (46 + t) v := by
  funext i
  by_cases hi : i = (46 + t)
  · subst hi
    rw [cf_see _ _ h]
    simp [nw_up, upd]
  · have e : upd (nv_cf I c) (46 + t) v i = nv_cf I c i := by simp [upd, hi]
    rw [e]
    unfold nv_cf
    simp only [nw_up_ne (show c ≠ c + 3 by omega), nw_up_ne (show c + 1 ≠ c + 3 by omega), nw_up_ne (show c + 2 ≠ c + 3 by omega), nw_up_ne (show c + 4 ≠ c + 3 by omega), nw_up_self]
    by_cases h1 : 46 ≤ i ∧ i < 49
    · rw [if_neg (by omega), if_neg (by omega), if_neg (by omega), if_neg (by omega), if_pos (by omega), if_neg (by omega), if_neg (by omega), if_neg (by omega), if_neg (by omega), if_pos (by omega)]
      unfold upd
      rw [if_neg (by omega)]
    · split
      · rfl
      split
      · rfl
      split
      · rfl
      split
      · rfl
      split
      · exfalso; omega
      rfl
theorem cf_dra (I : nw_Me) (c : Nat) {t : Nat} (h : t < 6) : nv_cf I c (49 + t) = I (c + 4) t := by
  unfold nv_cf
  rw [if_neg (by omega), if_neg (by omega), if_neg (by omega), if_neg (by omega), if_neg (by omega), if_pos (by omega)]
  congr 1
  omega
theorem cf_dra_up (I : nw_Me) (c : Nat) {t : Nat} (h : t < 6) (v : Int32) : nv_cf (nw_up I (c + 4) t v) c = upd (nv_cf I c) (49 + t) v := by
  funext i
  by_cases hi : i = (49 + t)
  · subst hi
    rw [cf_dra _ _ h]
    simp [nw_up, upd]
  · have e : upd (nv_cf I c) (49 + t) v i = nv_cf I c i := by simp [upd, hi]
    rw [e]
    unfold nv_cf
    simp only [nw_up_ne (show c ≠ c + 4 by omega), nw_up_ne (show c + 1 ≠ c + 4 by omega), nw_up_ne (show c + 2 ≠ c + 4 by omega), nw_up_ne (show c + 3 ≠ c + 4 by omega), nw_up_self]
    by_cases h1 : 49 ≤ i ∧ i < 55
    · rw [if_neg (by omega), if_neg (by omega), if_neg (by omega), if_neg (by omega), if_neg (by omega), if_pos (by omega), if_neg (by omega), if_neg (by omega), if_neg (by omega), if_neg (by omega), if_neg (by omega), if_pos (by omega)]
      unfold upd
      rw [if_neg (by omega)]
    · split
      · rfl
      split
      · rfl
      split
      · rfl
      split
      · rfl
      split
      · rfl
      split
      · exfalso; omega
      rfl
/-! What charts and scenes do, on the pictures. -/
def p_ix (C : Nat → Int32) (w : Int32) : Nat := w.toNatClampNeg % (C 3).toNatClampNeg
def p_kind (C : Nat → Int32) (w : Int32) : Int32 := C (6 + p_ix C w)
def p_hei (C : Nat → Int32) (w : Int32) : Int32 := C (26 + p_ix C w)
def p_dep (C : Nat → Int32) (w : Int32) : Int32 := nv_max 0 (C 1 - C 2 * w / 10)
def p_wat (C : Nat → Int32) (w : Int32) : Int32 := p_dep C w + nv_lift (p_kind C w) (p_hei C w)
def p_find (F : Nat → Int32) (t : Int32) : Nat → Nat → Option Nat
  | 0, _ => none
  | n + 1, p => if F (17 + (F (5 + p)).toNatClampNeg) = 0 ∧ F (11 + (F (5 + p)).toNatClampNeg) = t then some (F (5 + p)).toNatClampNeg else p_find F t n (p + 1)
def p_cross (C : Nat → Int32) (w : Int32) (F : Nat → Int32) (o : Option Nat) : Nat → Int32 := match o with
  | none => F
  | some s => upd (upd F (17 + s) (if w < C (49 + s) then 2 else 1)) (23 + s) (F 0)
/-- what a tower counts more by this kind -/
def p_more (C : Nat → Int32) (k : Int32) (t : Nat) : Int32 := nv_step (C (46 + t)) k
def p_call (C : Nat → Int32) (k : Int32) (F : Nat → Int32) (t : Nat) : Bool := nv_calls (F (2 + t)) (p_more C k t) (F 1)
def p_tow (C : Nat → Int32) (S : Nat) (k w : Int32) : Nat → Nat → (Nat → Int32) → (Nat → Int32)
  | 0, _, F => F
  | n + 1, t, F => p_tow C S k w n (t + 1) (upd (if p_call C k F t then p_cross C w F (p_find F (nI t) S 0) else F) (2 + t) (F (2 + t) + p_more C k t))
def p_cnt (f : Nat → Bool) : Nat → Nat → Nat
  | 0, _ => 0
  | n + 1, t => (if f t then 1 else 0) + p_cnt f n (t + 1)
theorem p_cnt_t {f : Nat → Bool} {n t : Nat} (h : f t = true) (m : Nat) : m + p_cnt f (n + 1) t = m + 1 + p_cnt f n (t + 1) := by simp [p_cnt, h]; omega
theorem p_cnt_f {f : Nat → Bool} {n t : Nat} (h : f t = false) (m : Nat) : m + p_cnt f (n + 1) t = m + p_cnt f n (t + 1) := by simp [p_cnt, h]
theorem p_cnt_ext {f f' : Nat → Bool} : ∀ (n t : Nat), (∀ j, t ≤ j → j < t + n → f j = f' j) → p_cnt f n t = p_cnt f' n t
  | 0, _, _ => rfl
  | n + 1, t, h => by unfold p_cnt; rw [h t (by omega) (by omega), p_cnt_ext n (t + 1) (fun j h1 h2 => h j (by omega) (by omega))]
def p_isf (F : Nat → Int32) (x : Int32) (s : Nat) : Bool := decide (F (17 + s) = x)
def p_wf (F : Nat → Int32) (t : Int32) (s : Nat) : Bool := decide (F (17 + s) = 0) && decide (F (11 + s) = t)
def p_place (F : Nat → Int32) (s : Int32) : Nat → Nat → Nat
  | 0, _ => 0
  | n + 1, p => if F (5 + p) = s then p else p_place F s n (p + 1)
def p_beg : Nat → Nat → (Nat → Int32) → (Nat → Int32)
  | 0, _, F => F
  | n + 1, s, F => p_beg n (s + 1) (upd (upd (upd F (5 + s) (nI s)) (17 + s) 0) (23 + s) (-1000000))
def p_come (C : Nat → Int32) (T S : Nat) (k w : Int32) (F : Nat → Int32) : Nat → Int32 := upd (p_tow C S k w T 0 F) 0 (p_tow C S k w T 0 F 0 + 1)
/-- a wave as the chart has it -/
def p_by (C : Nat → Int32) (T S : Nat) (F : Nat → Int32) : Nat → Int32 := p_come C T S (p_kind C (F 0)) (p_wat C (F 0)) F
def p_pass (C : Nat → Int32) (T S : Nat) : Nat → (Nat → Int32) → (Nat → Int32)
  | 0, F => F
  | n + 1, F => p_pass C T S n (p_by C T S F)
/-- a chart's numbers are such that its rows hold them; a scene's order names ships -/
def nv_cok (C : Nat → Int32) (N T S : Nat) : Prop := C 3 = nI N ∧ C 4 = nI T ∧ C 5 = nI S ∧ N ≤ 20 ∧ T ≤ 3 ∧ S ≤ 6
theorem p_ix_nI {C : Nat → Int32} {N v : Nat} (hN : C 3 = nI N) (h : N ≤ 20) (hv : v < 2 ^ 31) : p_ix C (nI v) = v % N := by unfold p_ix; rw [hN, nI_clamp hv, nI_clamp (by omega)]
def nv_fok (F : Nat → Int32) (S : Nat) : Prop := ∀ p, p < S → ∃ s, s < S ∧ F (5 + p) = nI s
