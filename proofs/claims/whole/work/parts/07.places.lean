/-! rows at places that stand from the beginning; new cells; contracts and calls -/
section SROWS
variable {own : String} {cc : ByteArray} {nL : Nat} {ret : Option FieldType} {d : Nat} {ini : Bool} {Φ : Option Value → Mem → Prop} {κ : Kx} {rc rs : Nat} {S : Mem} {pc q : Nat} {ls st : List Value}
def ck1 (p j : Nat) : Bool := decide (p < 44) && (decide (K0 p < 9) && decide (j < FN (K0 p)))
theorem ck1_ok {p j : Nat} (h : ck1 p j = true) : p < 44 ∧ K0 p < 9 ∧ j < FN (K0 p) := by
  unfold ck1 at h
  simpa only [Bool.and_eq_true, decide_eq_true_eq] using h
def ck2 (p t : Nat) : Bool := decide (p < 44) && (decide (100 ≤ K0 p) && decide (K0 p % 4 = t))
theorem ck2_ok {p t : Nat} (h : ck2 p t = true) : p < 44 ∧ K0 p = 100 + 4 * ((K0 p - 100) / 4) + t := by
  unfold ck2 at h
  simp only [Bool.and_eq_true, decide_eq_true_eq] at h
  exact ⟨h.1, by omega⟩
theorem wk {ad : Nat → Nat} {H : Heap} {locs : List Loc} {cells slots p : Nat} (hw : Wd κ rc rs S ad H locs cells slots) (hp : p < mN S) (h : p < 44) : mK S p = K0 p := hw.2.2.2.2.2.2.1 p hp h
theorem g_geti (C : Cx own cc nL ret d ini Φ κ) {p : Nat} (j : Nat) {index : Nat} (hd : decode cc pc = .ok (.getfield index, 3)) (hq : pc + 3 = q) (hc : ck1 p j = true) (hf : fint (K0 p) j = true) (hu : Cond.fieldLink own index (FT (K0 p) j).1 (FT (K0 p) j).2.1 (FT (K0 p) j).2.2.1 ∈ UT) (k : G κ rc rs S q ls (.int (mI S p j) :: st)) : G κ rc rs S pc ls (.ref p :: st) :=
  fun ad H locs lsA cells slots hw hl hs => g_getD C hd hq (wk hw (rb_h hs) (ck1_ok hc).1) (ck1_ok hc).2.1 (ck1_ok hc).2.2 hu (if_pos hf) k ad H locs lsA cells slots hw hl hs
theorem g_getr (C : Cx own cc nL ret d ini Φ κ) {p : Nat} (j : Nat) {index r : Nat} (hd : decode cc pc = .ok (.getfield index, 3)) (hq : pc + 3 = q) (hc : ck1 p j = true) (hf : fint (K0 p) j = false) (hu : Cond.fieldLink own index (FT (K0 p) j).1 (FT (K0 p) j).2.1 (FT (K0 p) j).2.2.1 ∈ UT) (hr : mR S p j = some r) (k : G κ rc rs S q ls (.ref r :: st)) : G κ rc rs S pc ls (.ref p :: st) :=
  fun ad H locs lsA cells slots hw hl hs => g_getD C hd hq (wk hw (rb_h hs) (ck1_ok hc).1) (ck1_ok hc).2.1 (ck1_ok hc).2.2 hu (by rw [if_neg (by rw [hf]; decide), hr]; rfl) k ad H locs lsA cells slots hw hl hs
theorem g_getiD (C : Cx own cc nL ret d ini Φ κ) {p ci : Nat} (j : Nat) {index : Nat} (hd : decode cc pc = .ok (.getfield index, 3)) (hq : pc + 3 = q) (hK : mK S p = ci) (hc : ci < 9) (hj : j < FN ci) (hf : fint ci j = true) (hu : Cond.fieldLink own index (FT ci j).1 (FT ci j).2.1 (FT ci j).2.2.1 ∈ UT) (k : G κ rc rs S q ls (.int (mI S p j) :: st)) : G κ rc rs S pc ls (.ref p :: st) := g_getD C hd hq hK hc hj hu (if_pos hf) k
theorem g_getrD (C : Cx own cc nL ret d ini Φ κ) {p ci : Nat} (j : Nat) {index r : Nat} (hd : decode cc pc = .ok (.getfield index, 3)) (hq : pc + 3 = q) (hK : mK S p = ci) (hc : ci < 9) (hj : j < FN ci) (hf : fint ci j = false) (hu : Cond.fieldLink own index (FT ci j).1 (FT ci j).2.1 (FT ci j).2.2.1 ∈ UT) (hr : mR S p j = some r) (k : G κ rc rs S q ls (.ref r :: st)) : G κ rc rs S pc ls (.ref p :: st) := g_getD C hd hq hK hc hj hu (by rw [if_neg (by rw [hf]; decide), hr]; rfl) k
theorem g_puti (C : Cx own cc nL ret d ini Φ κ) {p : Nat} (j : Nat) {index : Nat} {x : Int32} (hd : decode cc pc = .ok (.putfield index, 3)) (hq : pc + 3 = q) (hc : ck1 p j = true) (hf : fint (K0 p) j = true) (hp9 : pOk own ini (K0 p) j) (hu : Cond.fieldLink own index (FT (K0 p) j).1 (FT (K0 p) j).2.1 (FT (K0 p) j).2.2.1 ∈ UT) (k : G κ rc rs (sI S p j x) q ls st) : G κ rc rs S pc ls (.int x :: .ref p :: st) :=
  fun ad H locs lsA cells slots hw hl hs => g_putiD C hd hq (wk hw (rb_h (rb_t hs)) (ck1_ok hc).1) (ck1_ok hc).2.1 (ck1_ok hc).2.2 hf hp9 hu k ad H locs lsA cells slots hw hl hs
theorem g_putr (C : Cx own cc nL ret d ini Φ κ) {p : Nat} (j : Nat) {index y : Nat} (hd : decode cc pc = .ok (.putfield index, 3)) (hq : pc + 3 = q) (hc : ck1 p j = true) (hf : fint (K0 p) j = false) (hp9 : pOk own ini (K0 p) j) (hu : Cond.fieldLink own index (FT (K0 p) j).1 (FT (K0 p) j).2.1 (FT (K0 p) j).2.2.1 ∈ UT) (k : G κ rc rs (sR S p j (some y)) q ls st) : G κ rc rs S pc ls (.ref y :: .ref p :: st) :=
  fun ad H locs lsA cells slots hw hl hs => g_putrD (x := some y) C hd hq (wk hw (rb_h (rb_t hs)) (ck1_ok hc).1) (ck1_ok hc).2.1 (ck1_ok hc).2.2 hf hp9 hu k ad H locs lsA cells slots hw hl hs
theorem g_iald (C : Cx own cc nL ret d ini Φ κ) {p : Nat} {i : Int32} (hd : decode cc pc = .ok (.iaload, 1)) (hq : pc + 1 = q) (hc : ck2 p 0 = true) (hin : vp_in i ((K0 p - 100) / 4)) (k : G κ rc rs S q ls (.int (mA S p i.toNatClampNeg) :: st)) : G κ rc rs S pc ls (.int i :: .ref p :: st) :=
  fun ad H locs lsA cells slots hw hl hs => g_ialdD C hd hq ((wk hw (rb_h (rb_t hs)) (ck2_ok hc).1).trans (ck2_ok hc).2) hin k ad H locs lsA cells slots hw hl hs
theorem g_zald (C : Cx own cc nL ret d ini Φ κ) {p : Nat} {i : Int32} (hd : decode cc pc = .ok (.baload, 1)) (hq : pc + 1 = q) (hc : ck2 p 1 = true) (hin : vp_in i ((K0 p - 100) / 4)) (k : G κ rc rs S q ls (.int (mA S p i.toNatClampNeg) :: st)) : G κ rc rs S pc ls (.int i :: .ref p :: st) :=
  fun ad H locs lsA cells slots hw hl hs => g_zaldD C hd hq ((wk hw (rb_h (rb_t hs)) (ck2_ok hc).1).trans (ck2_ok hc).2) hin k ad H locs lsA cells slots hw hl hs
theorem g_lald (C : Cx own cc nL ret d ini Φ κ) {p : Nat} {i : Int32} (hd : decode cc pc = .ok (.laload, 1)) (hq : pc + 1 = q) (hc : ck2 p 2 = true) (hin : vp_in i ((K0 p - 100) / 4)) (k : G κ rc rs S q ls (.long (mL S p i.toNatClampNeg) :: st)) : G κ rc rs S pc ls (.int i :: .ref p :: st) :=
  fun ad H locs lsA cells slots hw hl hs => g_laldD C hd hq ((wk hw (rb_h (rb_t hs)) (ck2_ok hc).1).trans (ck2_ok hc).2) hin k ad H locs lsA cells slots hw hl hs
theorem g_aald (C : Cx own cc nL ret d ini Φ κ) {p : Nat} {i : Int32} (hd : decode cc pc = .ok (.aaload, 1)) (hq : pc + 1 = q) (hc : ck2 p 3 = true) (hin : vp_in i ((K0 p - 100) / 4)) (k : G κ rc rs S q ls (va_rf (mQ S p i.toNatClampNeg) :: st)) : G κ rc rs S pc ls (.int i :: .ref p :: st) :=
  fun ad H locs lsA cells slots hw hl hs => g_aaldD C hd hq ((wk hw (rb_h (rb_t hs)) (ck2_ok hc).1).trans (ck2_ok hc).2) hin k ad H locs lsA cells slots hw hl hs
theorem g_iast (C : Cx own cc nL ret d ini Φ κ) {p : Nat} {i x : Int32} (hd : decode cc pc = .ok (.iastore, 1)) (hq : pc + 1 = q) (hc : ck2 p 0 = true) (hin : vp_in i ((K0 p - 100) / 4)) (k : G κ rc rs (sA S p i.toNatClampNeg x) q ls st) : G κ rc rs S pc ls (.int x :: .int i :: .ref p :: st) :=
  fun ad H locs lsA cells slots hw hl hs => g_iastD C hd hq ((wk hw (rb_h (rb_t (rb_t hs))) (ck2_ok hc).1).trans (ck2_ok hc).2) hin k ad H locs lsA cells slots hw hl hs
theorem g_zast (C : Cx own cc nL ret d ini Φ κ) {p : Nat} {i x : Int32} (hd : decode cc pc = .ok (.bastore, 1)) (hq : pc + 1 = q) (hc : ck2 p 1 = true) (hin : vp_in i ((K0 p - 100) / 4)) (h01 : x = 0 ∨ x = 1) (k : G κ rc rs (sA S p i.toNatClampNeg x) q ls st) : G κ rc rs S pc ls (.int x :: .int i :: .ref p :: st) :=
  fun ad H locs lsA cells slots hw hl hs => g_zastD C hd hq ((wk hw (rb_h (rb_t (rb_t hs))) (ck2_ok hc).1).trans (ck2_ok hc).2) hin h01 k ad H locs lsA cells slots hw hl hs
theorem g_last (C : Cx own cc nL ret d ini Φ κ) {p : Nat} {i : Int32} {x : Int64} (hd : decode cc pc = .ok (.lastore, 1)) (hq : pc + 1 = q) (hc : ck2 p 2 = true) (hin : vp_in i ((K0 p - 100) / 4)) (k : G κ rc rs (sL S p i.toNatClampNeg x) q ls st) : G κ rc rs S pc ls (.long x :: .int i :: .ref p :: st) :=
  fun ad H locs lsA cells slots hw hl hs => g_lastD C hd hq ((wk hw (rb_h (rb_t (rb_t hs))) (ck2_ok hc).1).trans (ck2_ok hc).2) hin k ad H locs lsA cells slots hw hl hs
theorem g_aast (C : Cx own cc nL ret d ini Φ κ) {p : Nat} {y : Option Nat} {i : Int32} (hd : decode cc pc = .ok (.aastore, 1)) (hq : pc + 1 = q) (hc : ck2 p 3 = true) (hin : vp_in i ((K0 p - 100) / 4)) (hy : ∀ z, y = some z → mK S z = 2) (k : G κ rc rs (sQ S p i.toNatClampNeg y) q ls st) : G κ rc rs S pc ls (va_rf y :: .int i :: .ref p :: st) :=
  fun ad H locs lsA cells slots hw hl hs => g_aastQ C hd hq ((wk hw (rb_h (rb_t (rb_t hs))) (ck2_ok hc).1).trans (ck2_ok hc).2) hy hin k ad H locs lsA cells slots hw hl hs
/-- the world with a cell more -/
theorem wd_new {ad : Nat → Nat} {H H1 : Heap} {locs : List Loc} {cells slots kk a z : Nat} {lsA : Array Slot} (hw : Wd κ (rc + 1) (rs + z) S ad H locs cells slots) (hk0 : mN S < 44 → K0 (mN S) = kk) (hP : va_P (kD κ) CL (wl (k4 κ) ad S ++ [(a, celE (k4 κ) (u1 ad (mN S) a) (sN S kk) (mN S))]) H1) (hD : va_D (kA κ) (wl (k4 κ) ad S ++ [(a, celE (k4 κ) (u1 ad (mN S) a) (sN S kk) (mN S))])) (hS : va_S (kA κ) (ks κ).heap H1 locs) (hl : Lo κ S ad lsA ls) (hs : ∀ v ∈ st, rb (mN S) v)
    (k : G κ rc rs (sN S kk) q ls (.ref (mN S) :: st)) : WW κ H1 locs (cells + 1) (slots + z) (F0 (km κ) q lsA (.ref a :: st.map (cv ad))) := by
  have hle : ∀ j, j < mN S → u1 ad (mN S) a j = ad j := fun j hj => by unfold u1; rw [if_neg (by omega)]
  rw [wl_push hw.2.2.2.1] at hP hD
  have h1 := k (u1 ad (mN S) a) H1 locs lsA (cells + 1) (slots + z) ⟨hP, hD, hS, mwf_sN hw.2.2.2.1 kk, fun j hj => by rw [hle j (Nat.lt_of_lt_of_le hj hw.2.2.2.2.2.1)]; exact hw.2.2.2.2.1 j hj, Nat.le_succ_of_le hw.2.2.2.2.2.1, fun p hp h44 => ?_, by have := hw.2.2.2.2.2.2.2.1; omega, by have := hw.2.2.2.2.2.2.2.2; omega⟩
    ⟨⟨hl.1.1, hl.1.2.1, hl.1.2.2.1, fun i v hv hf => by rw [cv_same hle (hl.2.1 v (List.mem_of_getElem? hv))]; exact hl.1.2.2.2 i v hv hf⟩, fun v hv => rb_mono (Nat.le_succ _) (hl.2.1 v hv), hl.2.2⟩
    (rb_c (Nat.lt_succ_self _) (fun v hv => rb_mono (Nat.le_succ _) (hs v hv)))
  · rw [List.map_cons, cv_sameL hle hs] at h1
    have e : cv (u1 ad (mN S) a) (.ref (mN S)) = .ref a := by show Value.ref (u1 ad (mN S) a (mN S)) = _; unfold u1; rw [if_pos rfl]
    rw [e] at h1
    exact h1
  · show u1 (mK S) (mN S) kk p = K0 p
    unfold u1
    by_cases e : p = mN S
    · rw [if_pos e, e]
      exact (hk0 (by omega)).symm
    · rw [if_neg e]
      have hp : p < mN S + 1 := hp
      exact hw.2.2.2.2.2.2.1 p (by omega) h44
theorem mK_sN {k : Nat} : mK (sN S k) (mN S) = k := by show u1 _ _ _ _ = _; unfold u1; rw [if_pos rfl]
theorem mI_sN {k : Nat} : mI (sN S k) (mN S) = fun _ => 0 := by show u1 _ _ _ _ = _; unfold u1; rw [if_pos rfl]
theorem mR_sN {k : Nat} : mR (sN S k) (mN S) = fun _ => none := by show u1 _ _ _ _ = _; unfold u1; rw [if_pos rfl]
theorem mA_sN {k : Nat} : mA (sN S k) (mN S) = fun _ => 0 := by show u1 _ _ _ _ = _; unfold u1; rw [if_pos rfl]
theorem mL_sN {k : Nat} : mL (sN S k) (mN S) = fun _ => 0 := by show u1 _ _ _ _ = _; unfold u1; rw [if_pos rfl]
theorem mQ_sN {k : Nat} : mQ (sN S k) (mN S) = fun _ => none := by show u1 _ _ _ _ = _; unfold u1; rw [if_pos rfl]
theorem def_ref {ty : FieldType} (h : isRefTy ty = true) : defaultValue ty = .null := by cases ty <;> first | rfl | cases h
theorem g_new (C : Cx own cc nL ret d ini Φ κ) (ci : Nat) {index : Nat} (hd : decode cc pc = .ok (.new index, 3)) (hq : pc + 3 = q) (hc : ci < 9) (hu1 : Cond.classLink own index (CN ci) ∈ UT) (hu2 : Cond.instantiable (CN ci) (FN ci) ∈ UT) (hu3 : Cond.initialized (CN ci) ∈ UT) (hk0 : mN S < 44 → K0 (mN S) = ci) (k : G κ rc rs (sN S ci) q ls (.ref (mN S) :: st)) : G κ (rc + 1) (rs + FN ci) S pc ls st := by
  subst hq
  intro ad H locs lsA cells slots hw hl hs
  have hcel : ∀ a, celE (k4 κ) (u1 ad (mN S) a) (sN S ci) (mN S) = .inr (ci, (List.range (FN ci)).map (fun j => if fint ci j = true then .int 0 else .null)) := fun a => by
    rw [celE_obj mK_sN hc, mI_sN, mR_sN]
    rfl
  refine va_new (D := kD κ) (ci := ci) (fs := (List.range (FN ci)).map (fun j => if fint ci j = true then .int 0 else .null)) C.1.1 C.1.2.1 C.1.2.2.2.2 (lay_ok ci hc) (FY ci) (ty_ok ci hc) C.1.2.2.2.1 (C.1.2.2.2.2 _ hu1) (C.1.2.2.2.2 _ hu2) (C.1.2.2.2.2 _ hu3) C.2.1.1 hw.1 hw.2.1 hw.2.2.1 C.2.2.1.1 (CL_at hc) (fun j hj => ?_) (by have h1 := hw.2.2.2.2.2.2.2.1; have h2 := C.2.2.1.2.1; omega) (by have h1 := hw.2.2.2.2.2.2.2.2; have h2 := C.2.2.1.2.2; omega) hd (fun a H1 hP hD hS => ?_)
  · unfold vp_V
    rw [List.getD_eq_getElem?_getD, List.getElem?_map, List.getElem?_range hj]
    show _ = (if fint ci j = true then Value.int 0 else Value.null)
    by_cases hf : fint ci j = true
    · rw [if_pos hf, fy_int hf]; rfl
    · rw [if_neg hf]; exact def_ref (fy_ref ci hc j hj (by simpa using hf))
  · rw [← hcel a] at hP hD
    exact wd_new hw hk0 hP hD hS hl hs k
theorem ra_fun {U : State} {a b : ClassId} {ty : FieldType} (h1 : va_RA U a ty) (h2 : va_RA U b ty) : a = b := by
  cases ty with
  | object C =>
    obtain ⟨_, _, _, _, _, e1⟩ := h1
    obtain ⟨_, _, _, _, _, e2⟩ := h2
    exact Option.some.inj (e1.symm.trans e2)
  | _ => exact Option.some.inj (Eq.trans (Eq.symm h1) h2)
theorem g_newi (C : Cx own cc nL ret d ini Φ κ) (N : Nat) {n : Int32} (hd : decode cc pc = .ok (.newarray .int, 2)) (hq : pc + 2 = q) (hn : ¬ n < 0) (hN : n.toNatClampNeg = N) (hb : N ≤ 1000) (hk0 : mN S < 44 → K0 (mN S) = 100 + 4 * N + 0) (k : G κ rc rs (sN S (100 + 4 * N + 0)) q ls (.ref (mN S) :: st)) : G κ (rc + 1) (rs + N) S pc ls (.int n :: st) := by
  subst hq
  intro ad H locs lsA cells slots hw hl hs
  refine va_newa (D := kD κ) (atype := .int) (ty := .int) (a0 := (N, .inl (fun _ => 0))) C.1.1 C.1.2.1 (C.1.2.2.2.2 _ ac_int) rfl C.2.1.1 hw.1 hw.2.1 hw.2.2.1 C.2.2.1.1 (fun cA => rfl) hn hN (by show N * 4 ≤ _; omega) (by have h1 := hw.2.2.2.2.2.2.2.1; have h2 := C.2.2.1.2.1; omega) (by have h1 := hw.2.2.2.2.2.2.2.2; have h2 := C.2.2.1.2.2; omega) hd (fun a cA H1 hK hP hD hS => ?_)
  have hA : cA = k4 κ 0 := ra_fun (hK.2 4 (cA, .int) rfl).2 (C.2.1.1.2 0 _ rfl).2
  subst hA
  have hcel : celE (k4 κ) (u1 ad (mN S) a) (sN S (100 + 4 * N + 0)) (mN S) = .inl (k4 κ 0, N, .inl (fun _ => 0)) := by rw [celE_i mK_sN (by omega), mA_sN]
  rw [← hcel] at hP hD
  exact wd_new hw hk0 hP hD hS hl (rb_t hs) k
theorem g_newz (C : Cx own cc nL ret d ini Φ κ) (N : Nat) {n : Int32} (hd : decode cc pc = .ok (.newarray .boolean, 2)) (hq : pc + 2 = q) (hn : ¬ n < 0) (hN : n.toNatClampNeg = N) (hb : N ≤ 1000) (hk0 : mN S < 44 → K0 (mN S) = 100 + 4 * N + 1) (k : G κ rc rs (sN S (100 + 4 * N + 1)) q ls (.ref (mN S) :: st)) : G κ (rc + 1) (rs + N) S pc ls (.int n :: st) := by
  subst hq
  intro ad H locs lsA cells slots hw hl hs
  refine va_newa (D := kD κ) (atype := .boolean) (ty := .boolean) (a0 := (N, .inl (fun _ => 0))) C.1.1 C.1.2.1 (C.1.2.2.2.2 _ ac_boolean) rfl C.2.1.1 hw.1 hw.2.1 hw.2.2.1 C.2.2.1.1 (fun cA => rfl) hn hN (by show N * 1 ≤ _; omega) (by have h1 := hw.2.2.2.2.2.2.2.1; have h2 := C.2.2.1.2.1; omega) (by have h1 := hw.2.2.2.2.2.2.2.2; have h2 := C.2.2.1.2.2; omega) hd (fun a cA H1 hK hP hD hS => ?_)
  have hA : cA = k4 κ 1 := ra_fun (hK.2 4 (cA, .boolean) rfl).2 (C.2.1.1.2 1 _ rfl).2
  subst hA
  have hcel : celE (k4 κ) (u1 ad (mN S) a) (sN S (100 + 4 * N + 1)) (mN S) = .inl (k4 κ 1, N, .inl (fun _ => 0)) := by rw [celE_i mK_sN (by omega), mA_sN]
  rw [← hcel] at hP hD
  exact wd_new hw hk0 hP hD hS hl (rb_t hs) k
theorem g_newl (C : Cx own cc nL ret d ini Φ κ) (N : Nat) {n : Int32} (hd : decode cc pc = .ok (.newarray .long, 2)) (hq : pc + 2 = q) (hn : ¬ n < 0) (hN : n.toNatClampNeg = N) (hb : N ≤ 1000) (hk0 : mN S < 44 → K0 (mN S) = 100 + 4 * N + 2) (k : G κ rc rs (sN S (100 + 4 * N + 2)) q ls (.ref (mN S) :: st)) : G κ (rc + 1) (rs + N) S pc ls (.int n :: st) := by
  subst hq
  intro ad H locs lsA cells slots hw hl hs
  refine va_newa (D := kD κ) (atype := .long) (ty := .long) (a0 := (N, .inr (.inl (fun _ => 0)))) C.1.1 C.1.2.1 (C.1.2.2.2.2 _ ac_long) rfl C.2.1.1 hw.1 hw.2.1 hw.2.2.1 C.2.2.1.1 (fun cA => rfl) hn hN (by show N * 8 ≤ _; omega) (by have h1 := hw.2.2.2.2.2.2.2.1; have h2 := C.2.2.1.2.1; omega) (by have h1 := hw.2.2.2.2.2.2.2.2; have h2 := C.2.2.1.2.2; omega) hd (fun a cA H1 hK hP hD hS => ?_)
  have hA : cA = k4 κ 2 := ra_fun (hK.2 4 (cA, .long) rfl).2 (C.2.1.1.2 2 _ rfl).2
  subst hA
  have hcel : celE (k4 κ) (u1 ad (mN S) a) (sN S (100 + 4 * N + 2)) (mN S) = .inl (k4 κ 2, N, .inr (.inl (fun _ => 0))) := by rw [celE_l mK_sN, mL_sN]
  rw [← hcel] at hP hD
  exact wd_new hw hk0 hP hD hS hl (rb_t hs) k
theorem g_newq (C : Cx own cc nL ret d ini Φ κ) (N : Nat) {index : Nat} {n : Int32} (hd : decode cc pc = .ok (.anewarray index, 3)) (hq : pc + 3 = q) (hu : Cond.classLink own index RX2 ∈ UT) (hn : ¬ n < 0) (hN : n.toNatClampNeg = N) (hb : N ≤ 1000) (hk0 : mN S < 44 → K0 (mN S) = 100 + 4 * N + 3) (k : G κ rc rs (sN S (100 + 4 * N + 3)) q ls (.ref (mN S) :: st)) : G κ (rc + 1) (rs + N) S pc ls (.int n :: st) := by
  subst hq
  intro ad H locs lsA cells slots hw hl hs
  refine va_newq (D := kD κ) (C := RX2) C.1.1 C.1.2.1 C.1.2.2.2.1 (C.1.2.2.2.2 _ hu) C.2.1.2.2 C.2.1.1 hw.1 hw.2.1 hw.2.2.1 C.2.2.1.1 hn hN (by omega) (by have h1 := hw.2.2.2.2.2.2.2.1; have h2 := C.2.2.1.2.1; omega) (by have h1 := hw.2.2.2.2.2.2.2.2; have h2 := C.2.2.1.2.2; omega) hd (fun a cA H1 hK hP hD hS => ?_)
  have hA : cA = k4 κ 3 := ra_fun (hK.2 4 (cA, .object RX2) rfl).2 (C.2.1.1.2 3 _ rfl).2
  subst hA
  have hcel : celE (k4 κ) (u1 ad (mN S) a) (sN S (100 + 4 * N + 3)) (mN S) = .inl (k4 κ 3, N, .inr (.inr (.inr (.inr (fun _ => none))))) := by rw [celE_q mK_sN, mQ_sN]; rfl
  rw [← hcel] at hP hD
  exact wd_new hw hk0 hP hD hS hl (rb_t hs) k
theorem cat_sum (ad : Nat → Nat) (l : List Value) : ((l.map (cv ad)).map fun v => v.category).sum = (l.map fun v => v.category).sum := by
  rw [List.map_map]
  exact congrArg List.sum (List.map_congr_left (fun v _ => cv_cat ad v))
theorem g_objInit (C : Cx own cc nL ret d ini Φ κ) {index p : Nat} (hd : decode cc pc = .ok (.invokespecial index, 3)) (hq : pc + 3 = q) (hu : Cond.methodLink own index objectInit ∈ UT) (hdp : 1 ≤ d) (hsm : (st.map fun v => v.category).sum ≤ 8) (k : G κ rc rs S q ls st) : G κ rc rs S pc ls (.ref p :: st) := by
  subst hq
  intro ad H locs lsA cells slots hw hl hs
  refine W.objInit C.1.1 C.1.2.1 C.1.2.2.2.1 (C.1.2.2.2.2 _ hu) (C.1.2.2.2.2 _ im_objectInit) (C.1.2.2.2.2 _ co_objectInit) rfl (hl.1.1) rfl hd (Nat.le_trans hdp C.2.2.2.1.1) ?_ ?_
  · have h1 := C.2.2.2.1.2
    rw [cat_sum]
    have h2 : (F0 (km κ) pc lsA ((Value.ref p :: st).map (cv ad))).monitorRoom = 0 := rfl
    omega
  · exact k ad H locs lsA cells slots hw hl (rb_t hs)
end SROWS
