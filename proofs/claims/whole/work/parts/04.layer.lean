/-! THE LAYER: an abstract memory by places (a place's address is told by ad), and one judgement G for a frame over it -/
def CN : Nat → String := fun i => match i with | 0 => RX0 | 1 => RX1 | 2 => RX2 | 3 => RX3 | 4 => RX4 | 5 => RX5 | 6 => RX6 | 7 => RX7 | _ => RX8
def FT : Nat → u_T := fun i => match i with | 0 => TX0 | 1 => TX1 | 2 => TX2 | 3 => TX3 | 4 => TX4 | 5 => TX5 | 6 => TX6 | 7 => TX7 | _ => TX8
def FN : Nat → Nat := fun i => match i with | 0 => 3 | 1 => 2 | 2 => 4 | 3 => 4 | 4 => 6 | 5 => 6 | 6 => 3 | 7 => 12 | _ => 32
def FY : Nat → Nat → FieldType := fun i => match i with | 0 => tyX0 | 1 => tyX1 | 2 => tyX2 | 3 => tyX3 | 4 => tyX4 | 5 => tyX5 | 6 => tyX6 | 7 => tyX7 | _ => tyX8
def CL : List vw_C := (List.range 9).map (fun i => (CN i, FT i, FN i))
theorem nine {P : Nat → Prop} (h0 : P 0) (h1 : P 1) (h2 : P 2) (h3 : P 3) (h4 : P 4) (h5 : P 5) (h6 : P 6) (h7 : P 7) (h8 : P 8) : ∀ i, i < 9 → P i
  | 0, _ => h0 | 1, _ => h1 | 2, _ => h2 | 3, _ => h3 | 4, _ => h4 | 5, _ => h5 | 6, _ => h6 | 7, _ => h7 | 8, _ => h8
  | n + 9, h => absurd h (by omega)
theorem CL_at {ci : Nat} (h : ci < 9) : CL[ci]? = some (CN ci, FT ci, FN ci) := by
  unfold CL
  rw [List.getElem?_map, List.getElem?_range h]
  rfl
theorem lay_ok : ∀ ci, ci < 9 → ∀ w ∈ u_ws (CN ci) (FT ci) (FN ci), w ∈ UT := nine (P := fun ci => ∀ w ∈ u_ws (CN ci) (FT ci) (FN ci), w ∈ UT) ly_X0 ly_X1 ly_X2 ly_X3 ly_X4 ly_X5 ly_X6 ly_X7 ly_X8
theorem ty_ok : ∀ ci, ci < 9 → ∀ k, k < FN ci → parseFieldDescriptor (FT ci k).2.2.1 = some (FY ci k) := nine (P := fun ci => ∀ k, k < FN ci → parseFieldDescriptor (FT ci k).2.2.1 = some (FY ci k)) tyX0_ok tyX1_ok tyX2_ok tyX3_ok tyX4_ok tyX5_ok tyX6_ok tyX7_ok tyX8_ok
theorem nm_ok : ∀ ci, ci < 9 → ∀ a, a < FN ci → ∀ b, b < FN ci → a ≠ b → (FT ci a).2.1 ≠ (FT ci b).2.1 := nine (P := fun ci => ∀ a, a < FN ci → ∀ b, b < FN ci → a ≠ b → (FT ci a).2.1 ≠ (FT ci b).2.1) nmX0 nmX1 nmX2 nmX3 nmX4 nmX5 nmX6 nmX7 nmX8
/-- a field is an int, or a reference -/
def fint (ci j : Nat) : Bool := match FY ci j with | .int => true | _ => false
def isRefTy : FieldType → Bool | .object _ => true | .array _ => true | _ => false
theorem fy_ref : ∀ ci, ci < 9 → ∀ j, j < FN ci → fint ci j = false → isRefTy (FY ci j) = true := by
  refine nine ?_ ?_ ?_ ?_ ?_ ?_ ?_ ?_ ?_ <;> decide +kernel
theorem fy_int {ci j : Nat} (h : fint ci j = true) : FY ci j = .int := by
  unfold fint at h
  cases hf : FY ci j <;> simp_all
/-! the memory: how many places, the kind of each, int fields, reference fields, int (and boolean) rows, long rows, reference rows -/
abbrev Mem : Type := Nat × (Nat → Nat) × (Nat → Nat → Int32) × (Nat → Nat → Option Nat) × (Nat → Nat → Int32) × (Nat → Nat → Int64) × (Nat → Nat → Option Nat)
def mN (S : Mem) : Nat := S.1
def mK (S : Mem) : Nat → Nat := S.2.1
def mI (S : Mem) : Nat → Nat → Int32 := S.2.2.1
def mR (S : Mem) : Nat → Nat → Option Nat := S.2.2.2.1
def mA (S : Mem) : Nat → Nat → Int32 := S.2.2.2.2.1
def mL (S : Mem) : Nat → Nat → Int64 := S.2.2.2.2.2.1
def mQ (S : Mem) : Nat → Nat → Option Nat := S.2.2.2.2.2.2
def u2 {α : Type} (f : Nat → Nat → α) (p j : Nat) (v : α) : Nat → Nat → α := fun a b => if a = p then (if b = j then v else f a b) else f a b
def sI (S : Mem) (p j : Nat) (v : Int32) : Mem := (mN S, mK S, u2 (mI S) p j v, mR S, mA S, mL S, mQ S)
def sR (S : Mem) (p j : Nat) (v : Option Nat) : Mem := (mN S, mK S, mI S, u2 (mR S) p j v, mA S, mL S, mQ S)
def sA (S : Mem) (p j : Nat) (v : Int32) : Mem := (mN S, mK S, mI S, mR S, u2 (mA S) p j v, mL S, mQ S)
def sL (S : Mem) (p j : Nat) (v : Int64) : Mem := (mN S, mK S, mI S, mR S, mA S, u2 (mL S) p j v, mQ S)
def sQ (S : Mem) (p j : Nat) (v : Option Nat) : Mem := (mN S, mK S, mI S, mR S, mA S, mL S, u2 (mQ S) p j v)
def u1 {α : Type} (f : Nat → α) (p : Nat) (v : α) : Nat → α := fun a => if a = p then v else f a
/-- one place more, of a kind, all zero -/
def sN (S : Mem) (k : Nat) : Mem := (mN S + 1, u1 (mK S) (mN S) k, u1 (mI S) (mN S) (fun _ => 0), u1 (mR S) (mN S) (fun _ => none), u1 (mA S) (mN S) (fun _ => 0), u1 (mL S) (mN S) (fun _ => 0), u1 (mQ S) (mN S) (fun _ => none))
def celE (c4 : Nat → ClassId) (ad : Nat → Nat) (S : Mem) (p : Nat) : va_E :=
  if mK S p < 9 then .inr (mK S p, (List.range (FN (mK S p))).map (fun j => if fint (mK S p) j = true then .int (mI S p j) else va_rf ((mR S p j).map ad)))
  else .inl (c4 (mK S p % 4), (mK S p - 100) / 4, if mK S p % 4 = 2 then .inr (.inl (mL S p)) else if mK S p % 4 = 3 then .inr (.inr (.inr (.inr (fun i => (mQ S p i).map ad)))) else .inl (mA S p))
def tys4 (c4 : Nat → ClassId) : List (ClassId × FieldType) := [(c4 0, .int), (c4 1, .boolean), (c4 2, .long), (c4 3, .object RX2)]
def wl (c4 : Nat → ClassId) (ad : Nat → Nat) (S : Mem) : va_W := (List.range (mN S)).map (fun p => (ad p, celE c4 ad S p))
/-- references point at places that there are -/
def mwf (S : Mem) : Prop := ∀ p, p < mN S → (∀ j r, mR S p j = some r → r < mN S) ∧ (∀ i r, mQ S p i = some r → r < mN S)
def rb (n : Nat) : Value → Prop := fun v => match v with | .ref k => k < n | _ => True
def cv (ad : Nat → Nat) : Value → Value := fun v => match v with | .ref k => .ref (ad k) | v => v
theorem cv_cat (ad : Nat → Nat) (v : Value) : (cv ad v).category = v.category := by cases v <;> rfl
theorem cv_same {ad ad' : Nat → Nat} {n : Nat} (h : ∀ k, k < n → ad' k = ad k) {v : Value} (hv : rb n v) : cv ad' v = cv ad v := by
  cases v <;> try rfl
  exact congrArg Value.ref (h _ hv)
theorem cv_sameL {ad ad' : Nat → Nat} {n : Nat} (h : ∀ k, k < n → ad' k = ad k) {l : List Value} (hv : ∀ v ∈ l, rb n v) : l.map (cv ad') = l.map (cv ad) := List.map_congr_left (fun v hm => cv_same h (hv v hm))
theorem cv_rf (ad : Nat → Nat) (r : Option Nat) : cv ad (va_rf r) = va_rf (r.map ad) := by cases r <;> rfl
theorem rb_rf {n : Nat} {r : Option Nat} (h : ∀ k, r = some k → k < n) : rb n (va_rf r) := by
  cases r with
  | none => trivial
  | some k => exact h k rfl
theorem rb_mono {n n' : Nat} (h : n ≤ n') {v : Value} (hv : rb n v) : rb n' v := by
  cases v <;> try trivial
  exact Nat.lt_of_lt_of_le hv h
theorem wl_get {c4 : Nat → ClassId} {ad : Nat → Nat} {S : Mem} {p : Nat} (h : p < mN S) : (wl c4 ad S)[p]? = some (ad p, celE c4 ad S p) := by
  unfold wl
  rw [List.getElem?_map, List.getElem?_range h]
  rfl
theorem wl_len {c4 : Nat → ClassId} {ad : Nat → Nat} {S : Mem} : (wl c4 ad S).length = mN S := by unfold wl; simp
theorem wl_set {c4 : Nat → ClassId} {ad : Nat → Nat} {S S' : Mem} {p : Nat} {e : va_E} (hn : mN S' = mN S) (he : celE c4 ad S' p = e) (ho : ∀ q, q ≠ p → celE c4 ad S' q = celE c4 ad S q) : (wl c4 ad S).set p (ad p, e) = wl c4 ad S' := by
  apply List.ext_getElem?
  intro i
  by_cases hi : i < mN S
  · rw [wl_get (S := S') (by omega)]
    by_cases hp : i = p
    · subst hp
      rw [List.getElem?_set_self (by rw [wl_len]; exact hi), he]
    · rw [List.getElem?_set_ne (Ne.symm hp), wl_get hi, ho i hp]
  · rw [List.getElem?_eq_none (by rw [List.length_set, wl_len]; omega), List.getElem?_eq_none (by rw [wl_len]; omega)]
theorem celE_ad {c4 : Nat → ClassId} {ad ad' : Nat → Nat} {S : Mem} (hw : mwf S) (h : ∀ k, k < mN S → ad' k = ad k) {p : Nat} (hp : p < mN S) : celE c4 ad' S p = celE c4 ad S p := by
  have key : ∀ r : Option Nat, (∀ k, r = some k → k < mN S) → r.map ad' = r.map ad := by
    intro r hr
    cases r with
    | none => rfl
    | some k => exact congrArg some (h k (hr k rfl))
  unfold celE
  by_cases hk : mK S p < 9
  · rw [if_pos hk, if_pos hk]
    refine congrArg Sum.inr (congrArg (Prod.mk _) ?_)
    apply List.map_congr_left
    intro j _
    rw [key _ (fun k e => (hw p hp).1 j k e)]
  · rw [if_neg hk, if_neg hk]
    have e : (fun i => (mQ S p i).map ad') = (fun i => (mQ S p i).map ad) := funext fun i => key _ (fun k e => (hw p hp).2 i k e)
    rw [e]
theorem wl_ad {c4 : Nat → ClassId} {ad ad' : Nat → Nat} {S : Mem} (hw : mwf S) (h : ∀ k, k < mN S → ad' k = ad k) : wl c4 ad' S = wl c4 ad S := by
  unfold wl
  apply List.map_congr_left
  intro p hp
  have hp : p < mN S := List.mem_range.mp hp
  rw [h p hp, celE_ad hw h hp]
theorem celE_sN {c4 : Nat → ClassId} {ad : Nat → Nat} {S : Mem} {k p : Nat} (hp : p < mN S) : celE c4 ad (sN S k) p = celE c4 ad S p := by
  have hne : ¬ p = mN S := by omega
  have e1 : mK (sN S k) p = mK S p := by show u1 _ _ _ p = _; unfold u1; rw [if_neg hne]
  have e2 : mI (sN S k) p = mI S p := by show u1 _ _ _ p = _; unfold u1; rw [if_neg hne]
  have e3 : mR (sN S k) p = mR S p := by show u1 _ _ _ p = _; unfold u1; rw [if_neg hne]
  have e4 : mA (sN S k) p = mA S p := by show u1 _ _ _ p = _; unfold u1; rw [if_neg hne]
  have e5 : mL (sN S k) p = mL S p := by show u1 _ _ _ p = _; unfold u1; rw [if_neg hne]
  have e6 : mQ (sN S k) p = mQ S p := by show u1 _ _ _ p = _; unfold u1; rw [if_neg hne]
  unfold celE
  rw [e1, e2, e3, e4, e5, e6]
theorem mwf_sN {S : Mem} (h : mwf S) (k : Nat) : mwf (sN S k) := by
  intro p hp
  have hp : p < mN S + 1 := hp
  refine ⟨fun j r hr => ?_, fun j r hr => ?_⟩
  · have hr : u1 (mR S) (mN S) (fun _ => none) p j = some r := hr
    unfold u1 at hr
    show r < mN S + 1
    by_cases hq : p = mN S
    · rw [if_pos hq] at hr; cases hr
    · rw [if_neg hq] at hr
      exact Nat.lt_succ_of_lt ((h p (by omega)).1 j r hr)
  · have hr : u1 (mQ S) (mN S) (fun _ => none) p j = some r := hr
    unfold u1 at hr
    show r < mN S + 1
    by_cases hq : p = mN S
    · rw [if_pos hq] at hr; cases hr
    · rw [if_neg hq] at hr
      exact Nat.lt_succ_of_lt ((h p (by omega)).2 j r hr)
/-- a cell more: the address map goes on by it -/
theorem wl_push {c4 : Nat → ClassId} {ad : Nat → Nat} {S : Mem} {k q : Nat} (hw : mwf S) : wl c4 ad S ++ [(q, celE c4 (u1 ad (mN S) q) (sN S k) (mN S))] = wl c4 (u1 ad (mN S) q) (sN S k) := by
  have hle : ∀ j, j < mN S → u1 ad (mN S) q j = ad j := fun j hj => by unfold u1; rw [if_neg (by omega)]
  unfold wl
  show _ = (List.range (mN S + 1)).map _
  rw [List.range_succ, List.map_append]
  congr 1
  · apply List.map_congr_left
    intro p hp
    have hp : p < mN S := List.mem_range.mp hp
    rw [hle p hp, celE_sN hp, celE_ad hw hle hp]
  · simp [u1]
