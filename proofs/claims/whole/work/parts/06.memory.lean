/-! rows over the memory: fields and rows of numbers -/
theorem celE_obj {c4 : Nat → ClassId} {ad : Nat → Nat} {S : Mem} {p ci : Nat} (hK : mK S p = ci) (hc : ci < 9) : celE c4 ad S p = .inr (ci, (List.range (FN ci)).map (fun j => if fint ci j = true then .int (mI S p j) else va_rf ((mR S p j).map ad))) := by
  subst hK
  exact if_pos hc
theorem celE_arr {c4 : Nat → ClassId} {ad : Nat → Nat} {S : Mem} {p k : Nat} (hK : mK S p = k) (hc : ¬ k < 9) : celE c4 ad S p = .inl (c4 (k % 4), (k - 100) / 4, if k % 4 = 2 then .inr (.inl (mL S p)) else if k % 4 = 3 then .inr (.inr (.inr (.inr (fun i => (mQ S p i).map ad)))) else .inl (mA S p)) := by
  subst hK
  exact if_neg hc
theorem fs_set {N j : Nat} {f g : Nat → Value} {v : Value} (h1 : g j = v) (h2 : ∀ b, b ≠ j → g b = f b) : ((List.range N).map f).set j v = (List.range N).map g := by
  apply List.ext_getElem?
  intro i
  by_cases hi : i < N
  · rw [List.getElem?_map, List.getElem?_range hi]
    by_cases hp : i = j
    · subst hp
      rw [List.getElem?_set_self (by simpa using hi)]
      exact congrArg some h1.symm
    · rw [List.getElem?_set_ne (Ne.symm hp), List.getElem?_map, List.getElem?_range hi]
      exact congrArg some (h2 i hp).symm
  · rw [List.getElem?_eq_none (by simpa using Nat.le_of_not_lt hi), List.getElem?_eq_none (by simpa using Nat.le_of_not_lt hi)]
theorem u2_self {α : Type} (f : Nat → Nat → α) (p j : Nat) (v : α) : u2 f p j v p j = v := by unfold u2; rw [if_pos rfl, if_pos rfl]
theorem u2_nej {α : Type} (f : Nat → Nat → α) (p j : Nat) (v : α) {b : Nat} (h : b ≠ j) : u2 f p j v p b = f p b := by unfold u2; rw [if_pos rfl, if_neg h]
theorem u2_nep {α : Type} (f : Nat → Nat → α) (p j : Nat) (v : α) {a : Nat} (h : a ≠ p) : u2 f p j v a = f a := by funext b; unfold u2; rw [if_neg h]
theorem u2_row {α : Type} (f : Nat → Nat → α) (p j : Nat) (v : α) : u2 f p j v p = fun b => if b = j then v else f p b := by funext b; unfold u2; rw [if_pos rfl]
section MROWS
variable {own : String} {cc : ByteArray} {nL : Nat} {ret : Option FieldType} {d : Nat} {ini : Bool} {Φ : Option Value → Mem → Prop} {κ : Kx} {rc rs : Nat} {S : Mem} {pc q : Nat} {ls st : List Value}
theorem g_getD (C : Cx own cc nL ret d ini Φ κ) {p ci j index : Nat} {v : Value} (hd : decode cc pc = .ok (.getfield index, 3)) (hq : pc + 3 = q) (hK : mK S p = ci) (hc : ci < 9) (hj : j < FN ci) (hu : Cond.fieldLink own index (FT ci j).1 (FT ci j).2.1 (FT ci j).2.2.1 ∈ UT) (hv : (if fint ci j = true then Value.int (mI S p j) else va_rf (mR S p j)) = v) (k : G κ rc rs S q ls (v :: st)) : G κ rc rs S pc ls (.ref p :: st) := by
  subst hq
  intro ad H locs lsA cells slots hw hl hs
  have hp : p < mN S := rb_h hs
  refine va_get (D := kD κ) (ci := ci) (v := cv ad v) C.1.1 C.1.2.1 C.1.2.2.2.2 (lay_ok ci hc) C.1.2.2.2.1 C.2.1.1 hw.1 p (by rw [wl_get hp, celE_obj hK hc]) (CL_at hc) j hj (C.1.2.2.2.2 _ hu) (fun _ h => h) ?_ hd (k ad H locs lsA cells slots hw hl (rb_c ?_ (rb_t hs)))
  · rw [List.getElem?_map, List.getElem?_range hj, ← hv]
    by_cases hf : fint ci j = true
    · simp only [hf, if_true, Option.map_some]
      rfl
    · simp only [hf, Option.map_some]
      exact congrArg some (cv_rf ad _).symm
  · rw [← hv]
    by_cases hf : fint ci j = true
    · rw [if_pos hf]; trivial
    · rw [if_neg hf]; exact rb_rf (fun r e => (hw.2.2.2.1 p hp).1 j r e)
theorem wd_same {S' : Mem} {ad : Nat → Nat} {H H1 : Heap} {locs locs1 : List Loc} {cells slots : Nat} (hw : Wd κ rc rs S ad H locs cells slots) (hP : va_P (kD κ) CL (wl (k4 κ) ad S') H1) (hD : va_D (kA κ) (wl (k4 κ) ad S')) (hS : va_S (kA κ) (ks κ).heap H1 locs1) (hm : mwf S') (hn : mN S' = mN S) (hk : mK S' = mK S) : Wd κ rc rs S' ad H1 locs1 cells slots := ⟨hP, hD, hS, hm, hw.2.2.2.2.1, by rw [hn]; exact hw.2.2.2.2.2.1, by rw [hn, hk]; exact hw.2.2.2.2.2.2.1, hw.2.2.2.2.2.2.2⟩
theorem celE_sI {c4 : Nat → ClassId} {ad : Nat → Nat} {p j : Nat} {x : Int32} {a : Nat} (h : a ≠ p) : celE c4 ad (sI S p j x) a = celE c4 ad S a := by
  have e : mI (sI S p j x) a = mI S a := u2_nep _ _ _ _ h
  unfold celE
  rw [e]
  rfl
theorem celE_sR {c4 : Nat → ClassId} {ad : Nat → Nat} {p j : Nat} {x : Option Nat} {a : Nat} (h : a ≠ p) : celE c4 ad (sR S p j x) a = celE c4 ad S a := by
  have e : mR (sR S p j x) a = mR S a := u2_nep _ _ _ _ h
  unfold celE
  rw [e]
  rfl
theorem celE_sA {c4 : Nat → ClassId} {ad : Nat → Nat} {p j : Nat} {x : Int32} {a : Nat} (h : a ≠ p) : celE c4 ad (sA S p j x) a = celE c4 ad S a := by
  have e : mA (sA S p j x) a = mA S a := u2_nep _ _ _ _ h
  unfold celE
  rw [e]
  rfl
theorem celE_sL {c4 : Nat → ClassId} {ad : Nat → Nat} {p j : Nat} {x : Int64} {a : Nat} (h : a ≠ p) : celE c4 ad (sL S p j x) a = celE c4 ad S a := by
  have e : mL (sL S p j x) a = mL S a := u2_nep _ _ _ _ h
  unfold celE
  rw [e]
  rfl
theorem celE_sQ {c4 : Nat → ClassId} {ad : Nat → Nat} {p j : Nat} {x : Option Nat} {a : Nat} (h : a ≠ p) : celE c4 ad (sQ S p j x) a = celE c4 ad S a := by
  have e : mQ (sQ S p j x) a = mQ S a := u2_nep _ _ _ _ h
  unfold celE
  rw [e]
  rfl
theorem mwf_sR {p j : Nat} {x : Option Nat} (h : mwf S) (hx : ∀ k, x = some k → k < mN S) : mwf (sR S p j x) := by
  intro a ha
  refine ⟨fun b r hr => ?_, (h a ha).2⟩
  have hr : u2 (mR S) p j x a b = some r := hr
  unfold u2 at hr
  by_cases e1 : a = p
  · rw [if_pos e1] at hr
    by_cases e2 : b = j
    · rw [if_pos e2] at hr; exact hx r hr
    · rw [if_neg e2] at hr; exact (h a ha).1 b r hr
  · rw [if_neg e1] at hr; exact (h a ha).1 b r hr
theorem mwf_sQ {p j : Nat} {x : Option Nat} (h : mwf S) (hx : ∀ k, x = some k → k < mN S) : mwf (sQ S p j x) := by
  intro a ha
  refine ⟨(h a ha).1, fun b r hr => ?_⟩
  have hr : u2 (mQ S) p j x a b = some r := hr
  unfold u2 at hr
  by_cases e1 : a = p
  · rw [if_pos e1] at hr
    by_cases e2 : b = j
    · rw [if_pos e2] at hr; exact hx r hr
    · rw [if_neg e2] at hr; exact (h a ha).2 b r hr
  · rw [if_neg e1] at hr; exact (h a ha).2 b r hr
/-- a field may be written: it isn't final, or this is its own beginning -/
def pOk (own : String) (ini : Bool) (ci j : Nat) : Prop := (FT ci j).2.2.2 = false ∨ ((FT ci j).2.2.2 = true ∧ ini = true ∧ (FT ci j).1 = own)
theorem g_putK (C : Cx own cc nL ret d ini Φ κ) {p ci j index : Nat} {v : Value} {S' : Mem} (hd : decode cc pc = .ok (.putfield index, 3)) (hq : pc + 3 = q) (hK : mK S p = ci) (hc : ci < 9) (hj : j < FN ci) (hp9 : pOk own ini ci j) (hu : Cond.fieldLink own index (FT ci j).1 (FT ci j).2.1 (FT ci j).2.2.1 ∈ UT)
    (hna : ∀ ad, narrow (FY ci j) (cv ad v) = cv ad v) (hfi : ∀ ad, fits (FY ci j) (cv ad v) = true) (hn : mN S' = mN S) (hkk : mK S' = mK S) (hm : mwf S → (∀ k, v = .ref k → k < mN S) → mwf S')
    (he : ∀ c4 ad, celE c4 ad S' p = .inr (ci, ((List.range (FN ci)).map (fun j => if fint ci j = true then .int (mI S p j) else va_rf ((mR S p j).map ad))).set j (cv ad v))) (ho : ∀ c4 ad a, a ≠ p → celE c4 ad S' a = celE c4 ad S a) (k : G κ rc rs S' q ls st) : G κ rc rs S pc ls (v :: .ref p :: st) := by
  subst hq
  intro ad H locs lsA cells slots hw hl hs
  have hp : p < mN S := rb_h (rb_t hs)
  have hst : ∀ v ∈ st, rb (mN S') v := by rw [hn]; exact rb_t (rb_t hs)
  have hlo : Lo κ S' ad lsA ls := ⟨hl.1, by rw [hn]; exact hl.2.1, hl.2.2⟩
  have hmw : mwf S' := hm hw.2.2.2.1 (fun k e => by have h1 := rb_h hs; rw [e] at h1; exact h1)
  have hws : (wl (k4 κ) ad S).set p (ad p, .inr (ci, ((List.range (FN ci)).map (fun j => if fint ci j = true then .int (mI S p j) else va_rf ((mR S p j).map ad))).set j (cv ad v))) = wl (k4 κ) ad S' := wl_set hn (he _ _) (fun a ha => ho _ _ a ha)
  have fin : ∀ (H1 : Heap) (locs1 : List Loc), va_P (kD κ) CL ((wl (k4 κ) ad S).set p (ad p, .inr (ci, ((List.range (FN ci)).map (fun j => if fint ci j = true then .int (mI S p j) else va_rf ((mR S p j).map ad))).set j (cv ad v)))) H1 → va_D (kA κ) ((wl (k4 κ) ad S).set p (ad p, .inr (ci, ((List.range (FN ci)).map (fun j => if fint ci j = true then .int (mI S p j) else va_rf ((mR S p j).map ad))).set j (cv ad v)))) → va_S (kA κ) (ks κ).heap H1 locs1 → WW κ H1 locs1 cells slots (F0 (km κ) (pc + 3) lsA (st.map (cv ad))) := by
    intro H1 locs1 hP hD hS
    rw [hws] at hP hD
    exact k ad H1 locs1 lsA cells slots (wd_same hw hP hD hS hmw hn hkk) hlo hst
  rcases hp9 with hf | ⟨hf, hi, hdc⟩
  · exact va_put (D := kD κ) (ci := ci) C.1.1 C.1.2.1 C.1.2.2.2.2 (lay_ok ci hc) (FY ci) (ty_ok ci hc) (nm_ok ci hc) C.1.2.2.2.1 C.2.1.1 hw.1 hw.2.1 hw.2.2.1 p (by rw [wl_get hp, celE_obj hK hc]) (CL_at hc) j hj (C.1.2.2.2.2 _ hu) (fun _ h => h) hf (ty_ok ci hc j hj) (hna ad) (hfi ad) (by simpa using hj) hd fin
  · exact va_putF (D := kD κ) (ci := ci) C.1.1 C.1.2.1 C.1.2.2.2.2 (lay_ok ci hc) (FY ci) (ty_ok ci hc) (nm_ok ci hc) C.1.2.2.2.1 C.2.1.1 hw.1 hw.2.1 hw.2.2.1 p (by rw [wl_get hp, celE_obj hK hc]) (CL_at hc) j hj (C.1.2.2.2.2 _ hu) (fun _ h => h) hf (C.2.2.2.2.1 hi) hdc (ty_ok ci hc j hj) (hna ad) (hfi ad) (by simpa using hj) hd fin
theorem g_putiD (C : Cx own cc nL ret d ini Φ κ) {p ci j index : Nat} {x : Int32} (hd : decode cc pc = .ok (.putfield index, 3)) (hq : pc + 3 = q) (hK : mK S p = ci) (hc : ci < 9) (hj : j < FN ci) (hf : fint ci j = true) (hp9 : pOk own ini ci j) (hu : Cond.fieldLink own index (FT ci j).1 (FT ci j).2.1 (FT ci j).2.2.1 ∈ UT) (k : G κ rc rs (sI S p j x) q ls st) : G κ rc rs S pc ls (.int x :: .ref p :: st) := by
  refine g_putK C (S' := sI S p j x) hd hq hK hc hj hp9 hu (fun ad => by rw [fy_int hf]; rfl) (fun ad => by rw [fy_int hf]; rfl) rfl rfl (fun h _ => h) (fun c4 ad => ?_) (fun c4 ad a ha => celE_sI ha) k
  rw [celE_obj (S := sI S p j x) hK hc]
  refine congrArg Sum.inr (congrArg (Prod.mk _) (fs_set ?_ (fun b hb => ?_)).symm)
  · rw [if_pos hf]
    exact congrArg Value.int (u2_self _ _ _ _)
  · have e : mI (sI S p j x) p b = mI S p b := u2_nej _ _ _ _ hb
    rw [e]
    rfl
theorem ref_nar {ty : FieldType} (h : isRefTy ty = true) (ad : Nat → Nat) (x : Option Nat) : narrow ty (cv ad (va_rf x)) = cv ad (va_rf x) := by
  cases x <;> cases ty <;> first | rfl | cases h
theorem ref_fit {ty : FieldType} (h : isRefTy ty = true) (ad : Nat → Nat) (x : Option Nat) : fits ty (cv ad (va_rf x)) = true := by
  cases x <;> cases ty <;> first | rfl | cases h
theorem g_putrD (C : Cx own cc nL ret d ini Φ κ) {p ci j index : Nat} {x : Option Nat} (hd : decode cc pc = .ok (.putfield index, 3)) (hq : pc + 3 = q) (hK : mK S p = ci) (hc : ci < 9) (hj : j < FN ci) (hf : fint ci j = false) (hp9 : pOk own ini ci j) (hu : Cond.fieldLink own index (FT ci j).1 (FT ci j).2.1 (FT ci j).2.2.1 ∈ UT) (k : G κ rc rs (sR S p j x) q ls st) : G κ rc rs S pc ls (va_rf x :: .ref p :: st) := by
  refine g_putK C (S' := sR S p j x) hd hq hK hc hj hp9 hu (fun ad => ref_nar (fy_ref ci hc j hj hf) ad x) (fun ad => ref_fit (fy_ref ci hc j hj hf) ad x) rfl rfl (fun h hx => mwf_sR h (fun k e => hx k (by rw [e]; rfl))) (fun c4 ad => ?_) (fun c4 ad a ha => celE_sR ha) k
  rw [celE_obj (S := sR S p j x) hK hc]
  refine congrArg Sum.inr (congrArg (Prod.mk _) (fs_set ?_ (fun b hb => ?_)).symm)
  · rw [if_neg (by rw [hf]; decide)]
    have e : mR (sR S p j x) p j = x := u2_self _ _ _ _
    rw [e, cv_rf]
  · have e : mR (sR S p j x) p b = mR S p b := u2_nej _ _ _ _ hb
    rw [e]
    rfl
theorem ty4_at {c4 : Nat → ClassId} : (tys4 c4)[0]? = some (c4 0, .int) ∧ (tys4 c4)[1]? = some (c4 1, .boolean) ∧ (tys4 c4)[2]? = some (c4 2, .long) ∧ (tys4 c4)[3]? = some (c4 3, .object RX2) := ⟨rfl, rfl, rfl, rfl⟩
theorem arr_nlt {N t : Nat} : ¬ 100 + 4 * N + t < 9 := by omega
theorem arr_mod {N t : Nat} (ht : t < 4) : (100 + 4 * N + t) % 4 = t := by omega
theorem arr_len {N t : Nat} (ht : t < 4) : (100 + 4 * N + t - 100) / 4 = N := by omega
theorem celE_i {c4 : Nat → ClassId} {ad : Nat → Nat} {p N t : Nat} (hK : mK S p = 100 + 4 * N + t) (ht : t < 2) : celE c4 ad S p = .inl (c4 t, N, .inl (mA S p)) := by
  rw [celE_arr hK arr_nlt, arr_mod (by omega), arr_len (by omega), if_neg (by omega), if_neg (by omega)]
theorem celE_l {c4 : Nat → ClassId} {ad : Nat → Nat} {p N : Nat} (hK : mK S p = 100 + 4 * N + 2) : celE c4 ad S p = .inl (c4 2, N, .inr (.inl (mL S p))) := by
  rw [celE_arr hK arr_nlt, arr_mod (by omega), arr_len (by omega), if_pos rfl]
theorem celE_q {c4 : Nat → ClassId} {ad : Nat → Nat} {p N : Nat} (hK : mK S p = 100 + 4 * N + 3) : celE c4 ad S p = .inl (c4 3, N, .inr (.inr (.inr (.inr (fun i => (mQ S p i).map ad))))) := by
  rw [celE_arr hK arr_nlt, arr_mod (by omega), arr_len (by omega), if_neg (by omega), if_pos rfl]
theorem g_ialdD (C : Cx own cc nL ret d ini Φ κ) {p N : Nat} {i : Int32} (hd : decode cc pc = .ok (.iaload, 1)) (hq : pc + 1 = q) (hK : mK S p = 100 + 4 * N + 0) (hin : vp_in i N) (k : G κ rc rs S q ls (.int (mA S p i.toNatClampNeg) :: st)) : G κ rc rs S pc ls (.int i :: .ref p :: st) := by
  subst hq
  intro ad H locs lsA cells slots hw hl hs
  have hp : p < mN S := rb_h (rb_t hs)
  exact va_iald (D := kD κ) C.1.1 C.1.2.1 C.2.1.1 hw.1 p 0 (by rw [wl_get hp, celE_i hK (by omega)]) rfl hin hd (k ad H locs lsA cells slots hw hl (rb_i (rb_t (rb_t hs))))
theorem g_zaldD (C : Cx own cc nL ret d ini Φ κ) {p N : Nat} {i : Int32} (hd : decode cc pc = .ok (.baload, 1)) (hq : pc + 1 = q) (hK : mK S p = 100 + 4 * N + 1) (hin : vp_in i N) (k : G κ rc rs S q ls (.int (mA S p i.toNatClampNeg) :: st)) : G κ rc rs S pc ls (.int i :: .ref p :: st) := by
  subst hq
  intro ad H locs lsA cells slots hw hl hs
  have hp : p < mN S := rb_h (rb_t hs)
  exact va_zald (D := kD κ) C.1.1 C.1.2.1 C.2.1.1 hw.1 p 1 (by rw [wl_get hp, celE_i hK (by omega)]) rfl hin hd (k ad H locs lsA cells slots hw hl (rb_i (rb_t (rb_t hs))))
theorem g_laldD (C : Cx own cc nL ret d ini Φ κ) {p N : Nat} {i : Int32} (hd : decode cc pc = .ok (.laload, 1)) (hq : pc + 1 = q) (hK : mK S p = 100 + 4 * N + 2) (hin : vp_in i N) (k : G κ rc rs S q ls (.long (mL S p i.toNatClampNeg) :: st)) : G κ rc rs S pc ls (.int i :: .ref p :: st) := by
  subst hq
  intro ad H locs lsA cells slots hw hl hs
  have hp : p < mN S := rb_h (rb_t hs)
  exact va_lald (D := kD κ) C.1.1 C.1.2.1 C.2.1.1 hw.1 p 2 (by rw [wl_get hp, celE_l hK]) rfl hin hd (k ad H locs lsA cells slots hw hl (rb_l (rb_t (rb_t hs))))
theorem g_aaldD (C : Cx own cc nL ret d ini Φ κ) {p N : Nat} {i : Int32} (hd : decode cc pc = .ok (.aaload, 1)) (hq : pc + 1 = q) (hK : mK S p = 100 + 4 * N + 3) (hin : vp_in i N) (k : G κ rc rs S q ls (va_rf (mQ S p i.toNatClampNeg) :: st)) : G κ rc rs S pc ls (.int i :: .ref p :: st) := by
  subst hq
  intro ad H locs lsA cells slots hw hl hs
  have hp : p < mN S := rb_h (rb_t hs)
  refine va_aldq (D := kD κ) C.1.1 C.1.2.1 C.2.1.1 hw.1 p 3 (by rw [wl_get hp, celE_q hK]) rfl hin hd ?_
  have h1 := k ad H locs lsA cells slots hw hl (rb_c (rb_rf (fun r e => (hw.2.2.2.1 p hp).2 _ r e)) (rb_t (rb_t hs)))
  rw [List.map_cons, cv_rf] at h1
  exact h1
theorem mA_sA_row {p j : Nat} {x : Int32} : mA (sA S p j x) p = upd (mA S p) j x := by
  funext b
  show u2 _ _ _ _ p b = _
  unfold u2 upd
  rw [if_pos rfl]
theorem g_iastD (C : Cx own cc nL ret d ini Φ κ) {p N : Nat} {i x : Int32} (hd : decode cc pc = .ok (.iastore, 1)) (hq : pc + 1 = q) (hK : mK S p = 100 + 4 * N + 0) (hin : vp_in i N) (k : G κ rc rs (sA S p i.toNatClampNeg x) q ls st) : G κ rc rs S pc ls (.int x :: .int i :: .ref p :: st) := by
  subst hq
  intro ad H locs lsA cells slots hw hl hs
  have hp : p < mN S := rb_h (rb_t (rb_t hs))
  refine va_iast (D := kD κ) C.1.1 C.1.2.1 C.2.1.1 hw.1 hw.2.1 hw.2.2.1 p 0 (by rw [wl_get hp, celE_i hK (by omega)]) rfl hin hd (fun H1 locs1 hP hD hS => ?_)
  have hws := wl_set (c4 := k4 κ) (ad := ad) (S := S) (S' := sA S p i.toNatClampNeg x) (p := p) (e := .inl (k4 κ 0, N, .inl (upd (mA S p) i.toNatClampNeg x))) rfl (by rw [celE_i (S := sA S p i.toNatClampNeg x) hK (by omega), mA_sA_row]) (fun a ha => celE_sA ha)
  rw [hws] at hP hD
  exact k ad H1 locs1 lsA cells slots (wd_same hw hP hD hS hw.2.2.2.1 rfl rfl) hl (rb_t (rb_t (rb_t hs)))
theorem nar_01 {x : Int32} (h : x = 0 ∨ x = 1) : vp_nar .boolean x = x := by
  rcases h with rfl | rfl <;> decide
theorem g_zastD (C : Cx own cc nL ret d ini Φ κ) {p N : Nat} {i x : Int32} (hd : decode cc pc = .ok (.bastore, 1)) (hq : pc + 1 = q) (hK : mK S p = 100 + 4 * N + 1) (hin : vp_in i N) (h01 : x = 0 ∨ x = 1) (k : G κ rc rs (sA S p i.toNatClampNeg x) q ls st) : G κ rc rs S pc ls (.int x :: .int i :: .ref p :: st) := by
  subst hq
  intro ad H locs lsA cells slots hw hl hs
  have hp : p < mN S := rb_h (rb_t (rb_t hs))
  refine va_zast (D := kD κ) C.1.1 C.1.2.1 C.2.1.1 hw.1 hw.2.1 hw.2.2.1 p 1 (by rw [wl_get hp, celE_i hK (by omega)]) rfl hin hd (fun H1 locs1 hP hD hS => ?_)
  have hws := wl_set (c4 := k4 κ) (ad := ad) (S := S) (S' := sA S p i.toNatClampNeg x) (p := p) (e := .inl (k4 κ 1, N, .inl (upd (mA S p) i.toNatClampNeg (vp_nar .boolean x)))) rfl (by rw [celE_i (S := sA S p i.toNatClampNeg x) hK (by omega), mA_sA_row, nar_01 h01]) (fun a ha => celE_sA ha)
  rw [hws] at hP hD
  exact k ad H1 locs1 lsA cells slots (wd_same hw hP hD hS hw.2.2.2.1 rfl rfl) hl (rb_t (rb_t (rb_t hs)))
theorem g_lastD (C : Cx own cc nL ret d ini Φ κ) {p N : Nat} {i : Int32} {x : Int64} (hd : decode cc pc = .ok (.lastore, 1)) (hq : pc + 1 = q) (hK : mK S p = 100 + 4 * N + 2) (hin : vp_in i N) (k : G κ rc rs (sL S p i.toNatClampNeg x) q ls st) : G κ rc rs S pc ls (.long x :: .int i :: .ref p :: st) := by
  subst hq
  intro ad H locs lsA cells slots hw hl hs
  have hp : p < mN S := rb_h (rb_t (rb_t hs))
  refine va_last (D := kD κ) C.1.1 C.1.2.1 C.2.1.1 hw.1 hw.2.1 hw.2.2.1 p 2 (by rw [wl_get hp, celE_l hK]) rfl hin hd (fun H1 locs1 hP hD hS => ?_)
  have hrow : mL (sL S p i.toNatClampNeg x) p = vp_updL (mL S p) i.toNatClampNeg x := by
    funext b
    show u2 _ _ _ _ p b = _
    unfold u2 vp_updL
    rw [if_pos rfl]
  have hws := wl_set (c4 := k4 κ) (ad := ad) (S := S) (S' := sL S p i.toNatClampNeg x) (p := p) (e := .inl (k4 κ 2, N, .inr (.inl (vp_updL (mL S p) i.toNatClampNeg x)))) rfl (by rw [celE_l (S := sL S p i.toNatClampNeg x) hK, hrow]) (fun a ha => celE_sL ha)
  rw [hws] at hP hD
  exact k ad H1 locs1 lsA cells slots (wd_same hw hP hD hS hw.2.2.2.1 rfl rfl) hl (rb_t (rb_t (rb_t hs)))
theorem q_row {ad : Nat → Nat} {p j : Nat} {x : Option Nat} : (fun i => (mQ (sQ S p j x) p i).map ad) = va_up (fun i => (mQ S p i).map ad) j (x.map ad) := by
  funext b
  show Option.map ad (u2 (mQ S) p j x p b) = _
  unfold u2 va_up
  rw [if_pos rfl]
  by_cases h : b = j
  · rw [if_pos h, if_pos h]
  · rw [if_neg h, if_neg h]
theorem g_aastD (C : Cx own cc nL ret d ini Φ κ) {p N y : Nat} {i : Int32} (hd : decode cc pc = .ok (.aastore, 1)) (hq : pc + 1 = q) (hK : mK S p = 100 + 4 * N + 3) (hy : mK S y = 2) (hin : vp_in i N) (k : G κ rc rs (sQ S p i.toNatClampNeg (some y)) q ls st) : G κ rc rs S pc ls (.ref y :: .int i :: .ref p :: st) := by
  subst hq
  intro ad H locs lsA cells slots hw hl hs
  have hp : p < mN S := rb_h (rb_t (rb_t hs))
  have hyn : y < mN S := rb_h hs
  refine va_astq (D := kD κ) C.1.1 C.1.2.1 C.2.1.1 hw.1 hw.2.1 hw.2.2.1 p 3 y 2 (by rw [wl_get hp, celE_q hK]) (r := (CN 2, FT 2, FN 2)) rfl (by rw [wl_get hyn, celE_obj hy (by omega)]) (CL_at (by omega)) hin hd (fun H1 locs1 hP hD hS => ?_)
  have hws := wl_set (c4 := k4 κ) (ad := ad) (S := S) (S' := sQ S p i.toNatClampNeg (some y)) (p := p) (e := .inl (k4 κ 3, N, .inr (.inr (.inr (.inr (va_up (fun i => (mQ S p i).map ad) i.toNatClampNeg (some (ad y)))))))) rfl (by rw [celE_q (S := sQ S p i.toNatClampNeg (some y)) hK, q_row]; rfl) (fun a ha => celE_sQ ha)
  rw [hws] at hP hD
  exact k ad H1 locs1 lsA cells slots (wd_same hw hP hD hS (mwf_sQ hw.2.2.2.1 (fun k e => by cases e; exact hyn)) rfl rfl) hl (rb_t (rb_t (rb_t hs)))
theorem g_aastN (C : Cx own cc nL ret d ini Φ κ) {p N : Nat} {i : Int32} (hd : decode cc pc = .ok (.aastore, 1)) (hq : pc + 1 = q) (hK : mK S p = 100 + 4 * N + 3) (hin : vp_in i N) (k : G κ rc rs (sQ S p i.toNatClampNeg none) q ls st) : G κ rc rs S pc ls (.null :: .int i :: .ref p :: st) := by
  subst hq
  intro ad H locs lsA cells slots hw hl hs
  have hp : p < mN S := rb_h (rb_t (rb_t hs))
  refine va_astqN (D := kD κ) (C := RX2) C.1.1 C.1.2.1 C.2.1.1 hw.1 hw.2.1 hw.2.2.1 p 3 (by rw [wl_get hp, celE_q hK]) rfl hin hd (fun H1 locs1 hP hD hS => ?_)
  have hws := wl_set (c4 := k4 κ) (ad := ad) (S := S) (S' := sQ S p i.toNatClampNeg none) (p := p) (e := .inl (k4 κ 3, N, .inr (.inr (.inr (.inr (va_up (fun i => (mQ S p i).map ad) i.toNatClampNeg none)))))) rfl (by rw [celE_q (S := sQ S p i.toNatClampNeg none) hK, q_row]; rfl) (fun a ha => celE_sQ ha)
  rw [hws] at hP hD
  exact k ad H1 locs1 lsA cells slots (wd_same hw hP hD hS (mwf_sQ hw.2.2.2.1 (fun k e => by cases e)) rfl rfl) hl (rb_t (rb_t (rb_t hs)))
theorem g_aastQ (C : Cx own cc nL ret d ini Φ κ) {p N : Nat} {y : Option Nat} {i : Int32} (hd : decode cc pc = .ok (.aastore, 1)) (hq : pc + 1 = q) (hK : mK S p = 100 + 4 * N + 3) (hy : ∀ z, y = some z → mK S z = 2) (hin : vp_in i N) (k : G κ rc rs (sQ S p i.toNatClampNeg y) q ls st) : G κ rc rs S pc ls (va_rf y :: .int i :: .ref p :: st) := by
  cases y with
  | none => exact g_aastN C hd hq hK hin k
  | some z => exact g_aastD C hd hq hK (hy z rfl) hin k
end MROWS
