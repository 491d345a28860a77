/-! Behind the constructors: the shapes stand; only ints change. -/
abbrev nw_sI (n : Nat) : nw_Sh := .inl (0, n)
abbrev nw_rr (k : Nat) : Option (Option Nat) := some (some k)
abbrev nw_nn : Option (Option Nat) := none
abbrev nw_sSc (a : Nat) : List nw_Sh := [.inr (7, [nw_nn, nw_nn, nw_rr (a + 1), nw_rr (a + 2), nw_rr (a + 3), nw_rr (a + 4), nw_rr (a + 5)]), nw_sI 3, nw_sI 6, nw_sI 6, nw_sI 6, nw_sI 6]
abbrev nw_sCh (a : Nat) : List nw_Sh := [.inr (2, [nw_nn, nw_nn, nw_nn, nw_nn, nw_nn, nw_rr (a + 1), nw_rr (a + 2), nw_rr (a + 3), nw_rr (a + 4)]), nw_sI 20, nw_sI 20, nw_sI 3, nw_sI 6]
def nw_SH : List nw_Sh := [
  .inr (8, [nw_rr 1, nw_rr 13, nw_rr 15, nw_rr 20, nw_rr 25, nw_rr 31, nw_rr 37, nw_rr 183, nw_rr 192, nw_rr 194, nw_nn, nw_nn, nw_nn]),
  .inr (6, [nw_rr 2, nw_rr 3, nw_rr 4]),
  nw_sI 8,
  nw_sI 8,
  .inr (104, [nw_rr 5, nw_rr 6, nw_rr 7, nw_rr 8, nw_rr 9, nw_rr 10, nw_rr 11, nw_rr 12]),
  nw_sI 40,
  nw_sI 40,
  nw_sI 40,
  nw_sI 40,
  nw_sI 40,
  nw_sI 40,
  nw_sI 40,
  nw_sI 40,
  .inr (5, [nw_rr 14, nw_nn, nw_nn, nw_nn, nw_nn, nw_nn]),
  nw_sI 160,
  .inr (2, [nw_nn, nw_nn, nw_nn, nw_nn, nw_nn, nw_rr 16, nw_rr 17, nw_rr 18, nw_rr 19]),
  nw_sI 20,
  nw_sI 20,
  nw_sI 3,
  nw_sI 6,
  .inr (2, [nw_nn, nw_nn, nw_nn, nw_nn, nw_nn, nw_rr 21, nw_rr 22, nw_rr 23, nw_rr 24]),
  nw_sI 20,
  nw_sI 20,
  nw_sI 3,
  nw_sI 6,
  .inr (7, [nw_nn, nw_nn, nw_rr 26, nw_rr 27, nw_rr 28, nw_rr 29, nw_rr 30]),
  nw_sI 3,
  nw_sI 6,
  nw_sI 6,
  nw_sI 6,
  nw_sI 6,
  .inr (7, [nw_nn, nw_nn, nw_rr 32, nw_rr 33, nw_rr 34, nw_rr 35, nw_rr 36]),
  nw_sI 3,
  nw_sI 6,
  nw_sI 6,
  nw_sI 6,
  nw_sI 6,
  .inr (0, [nw_rr 38, nw_nn, nw_nn]),
  .inr (102, [nw_rr 39, nw_rr 45, nw_rr 51, nw_rr 57, nw_rr 63, nw_rr 69, nw_rr 75, nw_rr 81, nw_rr 87, nw_rr 93, nw_rr 99, nw_rr 105, nw_rr 111, nw_rr 117, nw_rr 123, nw_rr 129, nw_rr 135, nw_rr 141, nw_rr 147, nw_rr 153, nw_rr 159, nw_rr 165, nw_rr 171, nw_rr 177]),
  .inr (7, [nw_nn, nw_nn, nw_rr 40, nw_rr 41, nw_rr 42, nw_rr 43, nw_rr 44]),
  nw_sI 3,
  nw_sI 6,
  nw_sI 6,
  nw_sI 6,
  nw_sI 6,
  .inr (7, [nw_nn, nw_nn, nw_rr 46, nw_rr 47, nw_rr 48, nw_rr 49, nw_rr 50]),
  nw_sI 3,
  nw_sI 6,
  nw_sI 6,
  nw_sI 6,
  nw_sI 6,
  .inr (7, [nw_nn, nw_nn, nw_rr 52, nw_rr 53, nw_rr 54, nw_rr 55, nw_rr 56]),
  nw_sI 3,
  nw_sI 6,
  nw_sI 6,
  nw_sI 6,
  nw_sI 6,
  .inr (7, [nw_nn, nw_nn, nw_rr 58, nw_rr 59, nw_rr 60, nw_rr 61, nw_rr 62]),
  nw_sI 3,
  nw_sI 6,
  nw_sI 6,
  nw_sI 6,
  nw_sI 6,
  .inr (7, [nw_nn, nw_nn, nw_rr 64, nw_rr 65, nw_rr 66, nw_rr 67, nw_rr 68]),
  nw_sI 3,
  nw_sI 6,
  nw_sI 6,
  nw_sI 6,
  nw_sI 6,
  .inr (7, [nw_nn, nw_nn, nw_rr 70, nw_rr 71, nw_rr 72, nw_rr 73, nw_rr 74]),
  nw_sI 3,
  nw_sI 6,
  nw_sI 6,
  nw_sI 6,
  nw_sI 6,
  .inr (7, [nw_nn, nw_nn, nw_rr 76, nw_rr 77, nw_rr 78, nw_rr 79, nw_rr 80]),
  nw_sI 3,
  nw_sI 6,
  nw_sI 6,
  nw_sI 6,
  nw_sI 6,
  .inr (7, [nw_nn, nw_nn, nw_rr 82, nw_rr 83, nw_rr 84, nw_rr 85, nw_rr 86]),
  nw_sI 3,
  nw_sI 6,
  nw_sI 6,
  nw_sI 6,
  nw_sI 6,
  .inr (7, [nw_nn, nw_nn, nw_rr 88, nw_rr 89, nw_rr 90, nw_rr 91, nw_rr 92]),
  nw_sI 3,
  nw_sI 6,
  nw_sI 6,
  nw_sI 6,
  nw_sI 6,
  .inr (7, [nw_nn, nw_nn, nw_rr 94, nw_rr 95, nw_rr 96, nw_rr 97, nw_rr 98]),
  nw_sI 3,
  nw_sI 6,
  nw_sI 6,
  nw_sI 6,
  nw_sI 6,
  .inr (7, [nw_nn, nw_nn, nw_rr 100, nw_rr 101, nw_rr 102, nw_rr 103, nw_rr 104]),
  nw_sI 3,
  nw_sI 6,
  nw_sI 6,
  nw_sI 6,
  nw_sI 6,
  .inr (7, [nw_nn, nw_nn, nw_rr 106, nw_rr 107, nw_rr 108, nw_rr 109, nw_rr 110]),
  nw_sI 3,
  nw_sI 6,
  nw_sI 6,
  nw_sI 6,
  nw_sI 6,
  .inr (7, [nw_nn, nw_nn, nw_rr 112, nw_rr 113, nw_rr 114, nw_rr 115, nw_rr 116]),
  nw_sI 3,
  nw_sI 6,
  nw_sI 6,
  nw_sI 6,
  nw_sI 6,
  .inr (7, [nw_nn, nw_nn, nw_rr 118, nw_rr 119, nw_rr 120, nw_rr 121, nw_rr 122]),
  nw_sI 3,
  nw_sI 6,
  nw_sI 6,
  nw_sI 6,
  nw_sI 6,
  .inr (7, [nw_nn, nw_nn, nw_rr 124, nw_rr 125, nw_rr 126, nw_rr 127, nw_rr 128]),
  nw_sI 3,
  nw_sI 6,
  nw_sI 6,
  nw_sI 6,
  nw_sI 6,
  .inr (7, [nw_nn, nw_nn, nw_rr 130, nw_rr 131, nw_rr 132, nw_rr 133, nw_rr 134]),
  nw_sI 3,
  nw_sI 6,
  nw_sI 6,
  nw_sI 6,
  nw_sI 6,
  .inr (7, [nw_nn, nw_nn, nw_rr 136, nw_rr 137, nw_rr 138, nw_rr 139, nw_rr 140]),
  nw_sI 3,
  nw_sI 6,
  nw_sI 6,
  nw_sI 6,
  nw_sI 6,
  .inr (7, [nw_nn, nw_nn, nw_rr 142, nw_rr 143, nw_rr 144, nw_rr 145, nw_rr 146]),
  nw_sI 3,
  nw_sI 6,
  nw_sI 6,
  nw_sI 6,
  nw_sI 6,
  .inr (7, [nw_nn, nw_nn, nw_rr 148, nw_rr 149, nw_rr 150, nw_rr 151, nw_rr 152]),
  nw_sI 3,
  nw_sI 6,
  nw_sI 6,
  nw_sI 6,
  nw_sI 6,
  .inr (7, [nw_nn, nw_nn, nw_rr 154, nw_rr 155, nw_rr 156, nw_rr 157, nw_rr 158]),
  nw_sI 3,
  nw_sI 6,
  nw_sI 6,
  nw_sI 6,
  nw_sI 6,
  .inr (7, [nw_nn, nw_nn, nw_rr 160, nw_rr 161, nw_rr 162, nw_rr 163, nw_rr 164]),
  nw_sI 3,
  nw_sI 6,
  nw_sI 6,
  nw_sI 6,
  nw_sI 6,
  .inr (7, [nw_nn, nw_nn, nw_rr 166, nw_rr 167, nw_rr 168, nw_rr 169, nw_rr 170]),
  nw_sI 3,
  nw_sI 6,
  nw_sI 6,
  nw_sI 6,
  nw_sI 6,
  .inr (7, [nw_nn, nw_nn, nw_rr 172, nw_rr 173, nw_rr 174, nw_rr 175, nw_rr 176]),
  nw_sI 3,
  nw_sI 6,
  nw_sI 6,
  nw_sI 6,
  nw_sI 6,
  .inr (7, [nw_nn, nw_nn, nw_rr 178, nw_rr 179, nw_rr 180, nw_rr 181, nw_rr 182]),
  nw_sI 3,
  nw_sI 6,
  nw_sI 6,
  nw_sI 6,
  nw_sI 6,
  .inr (4, [nw_rr 184, nw_rr 188, nw_rr 189, nw_rr 190, nw_rr 191, nw_nn]),
  .inr (104, [nw_rr 185, nw_rr 186, nw_rr 187]),
  nw_sI 6,
  nw_sI 6,
  nw_sI 6,
  nw_sI 3,
  nw_sI 3,
  nw_sI 6,
  nw_sI 6,
  .inr (1, [nw_rr 193, nw_nn, nw_nn, nw_nn, nw_nn, nw_nn]),
  nw_sI 16,
  .inr (103, [nw_rr 195, nw_rr 207]),
  .inr (3, [nw_rr 196, nw_rr 201, nw_nn]),
  .inr (2, [nw_nn, nw_nn, nw_nn, nw_nn, nw_nn, nw_rr 197, nw_rr 198, nw_rr 199, nw_rr 200]),
  nw_sI 20,
  nw_sI 20,
  nw_sI 3,
  nw_sI 6,
  .inr (7, [nw_nn, nw_nn, nw_rr 202, nw_rr 203, nw_rr 204, nw_rr 205, nw_rr 206]),
  nw_sI 3,
  nw_sI 6,
  nw_sI 6,
  nw_sI 6,
  nw_sI 6,
  .inr (3, [nw_rr 208, nw_rr 213, nw_nn]),
  .inr (2, [nw_nn, nw_nn, nw_nn, nw_nn, nw_nn, nw_rr 209, nw_rr 210, nw_rr 211, nw_rr 212]),
  nw_sI 20,
  nw_sI 20,
  nw_sI 3,
  nw_sI 6,
  .inr (7, [nw_nn, nw_nn, nw_rr 214, nw_rr 215, nw_rr 216, nw_rr 217, nw_rr 218]),
  nw_sI 3,
  nw_sI 6,
  nw_sI 6,
  nw_sI 6,
  nw_sI 6,
  .inr (9, [nw_rr 220, nw_rr 221, nw_rr 222, nw_nn, nw_rr 223, nw_rr 224, nw_nn, nw_nn, nw_rr 225, nw_rr 226, nw_rr 227, nw_rr 228, nw_rr 229, nw_rr 230, nw_nn, nw_nn, nw_nn, nw_nn, nw_nn, nw_nn, nw_nn, nw_nn, nw_rr 231, nw_rr 232, nw_rr 233, nw_rr 234, nw_rr 235, nw_rr 236, nw_nn]),
  nw_sI 8,
  nw_sI 8,
  nw_sI 320,
  nw_sI 40,
  nw_sI 160,
  nw_sI 55,
  nw_sI 29,
  nw_sI 55,
  nw_sI 168,
  .inl (1, 2),
  nw_sI 696,
  nw_sI 3,
  nw_sI 6,
  nw_sI 29,
  nw_sI 6,
  nw_sI 6,
  nw_sI 16]
/-- a scene's cells, a chart's cells -/
def nw_iSc (a : Nat) : Prop := nw_SH[a]? = some (.inr (7, [nw_nn, nw_nn, nw_rr (a + 1), nw_rr (a + 2), nw_rr (a + 3), nw_rr (a + 4), nw_rr (a + 5)])) ∧ nw_SH[a + 1]? = some (nw_sI 3) ∧ nw_SH[a + 2]? = some (nw_sI 6) ∧ nw_SH[a + 3]? = some (nw_sI 6) ∧ nw_SH[a + 4]? = some (nw_sI 6) ∧ nw_SH[a + 5]? = some (nw_sI 6)
def nw_iCh (a : Nat) : Prop := nw_SH[a]? = some (.inr (2, [nw_nn, nw_nn, nw_nn, nw_nn, nw_nn, nw_rr (a + 1), nw_rr (a + 2), nw_rr (a + 3), nw_rr (a + 4)])) ∧ nw_SH[a + 1]? = some (nw_sI 20) ∧ nw_SH[a + 2]? = some (nw_sI 20) ∧ nw_SH[a + 3]? = some (nw_sI 3) ∧ nw_SH[a + 4]? = some (nw_sI 6)
/-- a boolean as an int -/
def nw_bi (b : Bool) : Int32 := if b then 1 else 0
theorem nw_bi_t : nw_bi true = 1 := rfl
theorem nw_bi_f : nw_bi false = 0 := rfl
theorem nw_bi_0 {b : Bool} : nw_bi b = 0 ↔ b = false := by cases b <;> decide
theorem nw_bi_nar (b : Bool) : narrow .boolean (.int (nw_bi b)) = .int (nw_bi b) := by cases b <;> decide +kernel
/-- contracts: an int, a boolean, nothing -/
def nw_qI (P : Int32 → nw_Me → Prop) : Option Int32 → List nw_Sh → nw_Me → Prop := fun v sh I => sh = nw_SH ∧ ∃ r, v = some r ∧ P r I
def nw_qZ (P : Bool → nw_Me → Prop) : Option Int32 → List nw_Sh → nw_Me → Prop := fun v sh I => sh = nw_SH ∧ ∃ b, v = some (nw_bi b) ∧ P b I
def nw_qV (P : nw_Me → Prop) : Option Int32 → List nw_Sh → nw_Me → Prop := fun v sh I => sh = nw_SH ∧ v = none ∧ P I
abbrev nw_S (l : Launch) (g : nw_G) (d : Nat) (M : nw_Mt) (pc : Nat) (ls : List (Option Value)) (st : List Value) (I : nw_Me) (Post : Option Int32 → List nw_Sh → nw_Me → Prop) : Prop := nw_Ev l g d M pc ls st nw_SH I 0 0 Post
def nw_cI (l : Launch) (g : nw_G) (d : Nat) (M : nw_Mt) (av : List Value) (I : nw_Me) (P : Int32 → nw_Me → Prop) : Prop := (nw_lo av).length ≤ M.2.2.1 ∧ nw_S l g d M 0 (nw_in M av) [] I (nw_qI P)
def nw_cZ (l : Launch) (g : nw_G) (d : Nat) (M : nw_Mt) (av : List Value) (I : nw_Me) (P : Bool → nw_Me → Prop) : Prop := (nw_lo av).length ≤ M.2.2.1 ∧ nw_S l g d M 0 (nw_in M av) [] I (nw_qZ P)
def nw_cV (l : Launch) (g : nw_G) (d : Nat) (M : nw_Mt) (av : List Value) (I : nw_Me) (P : nw_Me → Prop) : Prop := (nw_lo av).length ≤ M.2.2.1 ∧ nw_S l g d M 0 (nw_in M av) [] I (nw_qV P)
section
variable {l : Launch} {g : nw_G} {d d0 : Nat} {M M' : nw_Mt} {pc n : Nat} {ls : List (Option Value)} {st : List Value} {I : nw_Me} {Post : Option Int32 → List nw_Sh → nw_Me → Prop}
theorem nw_cI.mono {av : List Value} {P P' : Int32 → nw_Me → Prop} (h : nw_cI l g d M av I P) (hp : ∀ r I', P r I' → P' r I') : nw_cI l g d M av I P' := ⟨h.1, ev_post (fun v sh1 I1 q => ⟨q.1, by obtain ⟨-, r, e, q⟩ := q; exact ⟨r, e, hp _ _ q⟩⟩) h.2⟩
theorem nw_cZ.mono {av : List Value} {P P' : Bool → nw_Me → Prop} (h : nw_cZ l g d M av I P) (hp : ∀ r I', P r I' → P' r I') : nw_cZ l g d M av I P' := ⟨h.1, ev_post (fun v sh1 I1 q => ⟨q.1, by obtain ⟨-, r, e, q⟩ := q; exact ⟨r, e, hp _ _ q⟩⟩) h.2⟩
theorem nw_cV.mono {av : List Value} {P P' : nw_Me → Prop} (h : nw_cV l g d M av I P) (hp : ∀ I', P I' → P' I') : nw_cV l g d M av I P' := ⟨h.1, ev_post (fun v sh1 I1 q => ⟨q.1, q.2.1, hp _ q.2.2⟩) h.2⟩
theorem nw_cI.deep {av : List Value} {P : Int32 → nw_Me → Prop} (h : nw_cI l g d0 M av I P) (hd : d0 ≤ d) : nw_cI l g d M av I P := ⟨h.1, ev_deep hd h.2⟩
theorem nw_cZ.deep {av : List Value} {P : Bool → nw_Me → Prop} (h : nw_cZ l g d0 M av I P) (hd : d0 ≤ d) : nw_cZ l g d M av I P := ⟨h.1, ev_deep hd h.2⟩
theorem nw_cV.deep {av : List Value} {P : nw_Me → Prop} (h : nw_cV l g d0 M av I P) (hd : d0 ≤ d) : nw_cV l g d M av I P := ⟨h.1, ev_deep hd h.2⟩
theorem s_retI {x : Int32} {P : Int32 → nw_Me → Prop} (hd : decode M.2.1 pc = .ok (.ireturn, 1)) (hp : P x I) : nw_S l g d M pc ls [.int x] I (nw_qI P) := ev_ireturn hd ⟨rfl, x, rfl, hp⟩
theorem s_retZ {b : Bool} {P : Bool → nw_Me → Prop} (hd : decode M.2.1 pc = .ok (.ireturn, 1)) (hp : P b I) : nw_S l g d M pc ls [.int (nw_bi b)] I (nw_qZ P) := ev_ireturn hd ⟨rfl, b, rfl, hp⟩
theorem s_ret1 {P : Bool → nw_Me → Prop} (hd : decode M.2.1 pc = .ok (.ireturn, 1)) (hp : P true I) : nw_S l g d M pc ls [.int 1] I (nw_qZ P) := ev_ireturn hd ⟨rfl, true, rfl, hp⟩
theorem s_ret0 {P : Bool → nw_Me → Prop} (hd : decode M.2.1 pc = .ok (.ireturn, 1)) (hp : P false I) : nw_S l g d M pc ls [.int 0] I (nw_qZ P) := ev_ireturn hd ⟨rfl, false, rfl, hp⟩
theorem s_retV {P : nw_Me → Prop} (hd : decode M.2.1 pc = .ok (.return_, 1)) (hp : P I) : nw_S l g d M pc ls [] I (nw_qV P) := ev_return hd ⟨rfl, rfl, hp⟩
theorem s_ifZ_eq {b : Bool} {off : Int} {tgt : Nat} (hd : decode M.2.1 pc = .ok (.ifCond .eq off, 3)) (ht : (pc : Int) + off = (tgt : Int)) (kt : b = false → nw_S l g d M tgt ls st I Post) (kf : b = true → nw_S l g d M (pc + 3) ls st I Post) : nw_S l g d M pc ls (.int (nw_bi b) :: st) I Post := ev_if_eq hd ht (fun h => kt (nw_bi_0.mp h)) (fun h => kf (by cases b; exact absurd rfl h; rfl))
theorem s_ifZ_ne {b : Bool} {off : Int} {tgt : Nat} (hd : decode M.2.1 pc = .ok (.ifCond .ne off, 3)) (ht : (pc : Int) + off = (tgt : Int)) (kt : b = true → nw_S l g d M tgt ls st I Post) (kf : b = false → nw_S l g d M (pc + 3) ls st I Post) : nw_S l g d M pc ls (.int (nw_bi b) :: st) I Post := ev_if_ne hd ht (fun h => kt (by cases b; exact absurd rfl h; rfl)) (fun h => kf (nw_bi_0.mp h))
/-- calls: V of an object, S static, N static of a nest mate; i, z, v: what is answered -/
theorem s_callVi {i k ci N : Nat} {T : u_T} {fs : List (Option (Option Nat))} {As : List Value} {P : Int32 → nw_Me → Prop} (h : nw_cI l g d0 M' (.ref (nw_a g k) :: As) I P) (hdd : d0 ≤ d) (hl : nw_ml M.1.cls i M') (hk : nw_ok M' n) (hv : nw_iv M') (hd : decode M.2.1 pc = .ok (.invokevirtual i, 3)) (hret : M'.2.2.2 = some .int) (hn : As.length = n) (hsh : nw_SH[k]? = some (.inr (ci, fs))) (hci : ci < 100) (hcl : nw_cl[ci]? = some (M'.1.cls, T, N)) (hst : (st.map fun v => v.category).sum ≤ 8)
    (kk : ∀ r I', P r I' → nw_S l g (d + 1) M (pc + 3) ls (.int r :: st) I' Post) : nw_S l g (d + 1) M pc ls (As.reverse ++ .ref (nw_a g k) :: st) I Post :=
  ev_callVi (kc := 0) (ks := 0) (kc1 := 0) (ks1 := 0) (h.deep hdd).2 hl hk hv hd hret (fun v sh' I' q => by obtain ⟨-, r, e, -⟩ := q; exact ⟨r, e, rfl⟩) h.1 hn hsh hci hcl hst (fun r sh' I' q => by obtain ⟨rfl, r', e, hp⟩ := q; cases e; exact kk _ _ hp)
theorem s_callVz {i k ci N : Nat} {T : u_T} {fs : List (Option (Option Nat))} {As : List Value} {P : Bool → nw_Me → Prop} (h : nw_cZ l g d0 M' (.ref (nw_a g k) :: As) I P) (hdd : d0 ≤ d) (hl : nw_ml M.1.cls i M') (hk : nw_ok M' n) (hv : nw_iv M') (hd : decode M.2.1 pc = .ok (.invokevirtual i, 3)) (hret : M'.2.2.2 = some .boolean) (hn : As.length = n) (hsh : nw_SH[k]? = some (.inr (ci, fs))) (hci : ci < 100) (hcl : nw_cl[ci]? = some (M'.1.cls, T, N)) (hst : (st.map fun v => v.category).sum ≤ 8)
    (kk : ∀ r I', P r I' → nw_S l g (d + 1) M (pc + 3) ls (.int (nw_bi r) :: st) I' Post) : nw_S l g (d + 1) M pc ls (As.reverse ++ .ref (nw_a g k) :: st) I Post :=
  ev_callVi (kc := 0) (ks := 0) (kc1 := 0) (ks1 := 0) (h.deep hdd).2 hl hk hv hd hret (fun v sh' I' q => by obtain ⟨-, r, e, -⟩ := q; exact ⟨_, e, nw_bi_nar r⟩) h.1 hn hsh hci hcl hst (fun r sh' I' q => by obtain ⟨rfl, r', e, hp⟩ := q; cases e; exact kk _ _ hp)
theorem s_callVv {i k ci N : Nat} {T : u_T} {fs : List (Option (Option Nat))} {As : List Value} {P : nw_Me → Prop} (h : nw_cV l g d0 M' (.ref (nw_a g k) :: As) I P) (hdd : d0 ≤ d) (hl : nw_ml M.1.cls i M') (hk : nw_ok M' n) (hv : nw_iv M') (hd : decode M.2.1 pc = .ok (.invokevirtual i, 3)) (hret : M'.2.2.2 = none) (hn : As.length = n) (hsh : nw_SH[k]? = some (.inr (ci, fs))) (hci : ci < 100) (hcl : nw_cl[ci]? = some (M'.1.cls, T, N)) (hst : (st.map fun v => v.category).sum ≤ 8)
    (kk : ∀ I', P I' → nw_S l g (d + 1) M (pc + 3) ls st I' Post) : nw_S l g (d + 1) M pc ls (As.reverse ++ .ref (nw_a g k) :: st) I Post :=
  ev_callVv (kc := 0) (ks := 0) (kc1 := 0) (ks1 := 0) (h.deep hdd).2 hl hk hv hd hret (fun v sh' I' q => q.2.1) h.1 hn hsh hci hcl hst (fun sh' I' q => by obtain ⟨rfl, -, hp⟩ := q; exact kk _ hp)
theorem s_callSi {i : Nat} {As : List Value} {P : Int32 → nw_Me → Prop} (h : nw_cI l g d0 M' As I P) (hdd : d0 ≤ d) (hl : nw_ml M.1.cls i M') (hk : nw_ok M' n) (hv : nw_ss M') (hd : decode M.2.1 pc = .ok (.invokestatic i, 3)) (hret : M'.2.2.2 = some .int) (hn : As.length = n) (hst : (st.map fun v => v.category).sum ≤ 8)
    (kk : ∀ r I', P r I' → nw_S l g (d + 1) M (pc + 3) ls (.int r :: st) I' Post) : nw_S l g (d + 1) M pc ls (As.reverse ++ st) I Post :=
  ev_callSi (kc := 0) (ks := 0) (kc1 := 0) (ks1 := 0) (h.deep hdd).2 hl hk hv hd hret (fun v sh' I' q => by obtain ⟨-, r, e, -⟩ := q; exact ⟨r, e, rfl⟩) h.1 hn hst (fun r sh' I' q => by obtain ⟨rfl, r', e, hp⟩ := q; cases e; exact kk _ _ hp)
theorem s_callSz {i : Nat} {As : List Value} {P : Bool → nw_Me → Prop} (h : nw_cZ l g d0 M' As I P) (hdd : d0 ≤ d) (hl : nw_ml M.1.cls i M') (hk : nw_ok M' n) (hv : nw_ss M') (hd : decode M.2.1 pc = .ok (.invokestatic i, 3)) (hret : M'.2.2.2 = some .boolean) (hn : As.length = n) (hst : (st.map fun v => v.category).sum ≤ 8)
    (kk : ∀ r I', P r I' → nw_S l g (d + 1) M (pc + 3) ls (.int (nw_bi r) :: st) I' Post) : nw_S l g (d + 1) M pc ls (As.reverse ++ st) I Post :=
  ev_callSi (kc := 0) (ks := 0) (kc1 := 0) (ks1 := 0) (h.deep hdd).2 hl hk hv hd hret (fun v sh' I' q => by obtain ⟨-, r, e, -⟩ := q; exact ⟨_, e, nw_bi_nar r⟩) h.1 hn hst (fun r sh' I' q => by obtain ⟨rfl, r', e, hp⟩ := q; cases e; exact kk _ _ hp)
theorem s_callNz {i : Nat} {As : List Value} {P : Bool → nw_Me → Prop} (h : nw_cZ l g d0 M' As I P) (hdd : d0 ≤ d) (hl : nw_mn M.1.cls i M') (hk : nw_ok M' n) (hv : nw_ss M') (hd : decode M.2.1 pc = .ok (.invokestatic i, 3)) (hret : M'.2.2.2 = some .boolean) (hn : As.length = n) (hst : (st.map fun v => v.category).sum ≤ 8)
    (kk : ∀ r I', P r I' → nw_S l g (d + 1) M (pc + 3) ls (.int (nw_bi r) :: st) I' Post) : nw_S l g (d + 1) M pc ls (As.reverse ++ st) I Post :=
  ev_callSN (kc := 0) (ks := 0) (kc1 := 0) (ks1 := 0) (h.deep hdd).2 hl hk hv hd hret (fun v sh' I' q => by obtain ⟨-, r, e, -⟩ := q; exact ⟨_, e, nw_bi_nar r⟩) h.1 hn hst (fun r sh' I' q => by obtain ⟨rfl, r', e, hp⟩ := q; cases e; exact kk _ _ hp)
end
