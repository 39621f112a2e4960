/-! contracts over the memory, and the rows of calls -/
def Wo (D : va_G) (c4 : Nat → ClassId) (ad : Nat → Nat) (S : Mem) (U : State) : Prop := va_P D CL (wl c4 ad S) U.heap ∧ va_K D CL (tys4 c4) U ∧ va_D (fun _ => True) (wl c4 ad S) ∧ mwf S ∧ (∀ p, p < mN S → p < 44 → mK S p = K0 p) ∧ (∀ q ∈ NW, va_Nw (.methodLinkNest q.1 q.2.1 q.2.2.1 q.2.2.2) U) ∧ va_AO RX2 U
def Po (c4 : Nat → ClassId) (D : va_G) (ad : Nat → Nat) (sz : Nat) (a : List Value) (S : Mem) : Array Value → State → Prop := va_Pc (a.map (cv ad)) (fun U => U.heap.size = sz ∧ Wo D c4 ad S U ∧ ∀ v ∈ a, rb (mN S) v)
def Qo (c4 : Nat → ClassId) (D : va_G) (ad : Nat → Nat) (sz : Nat) (S : Mem) (Φ : Option Value → Mem → Prop) : Array Value → State → Outcome → State → Prop := fun _ st oc t =>
  (∃ (r : Option Value) (ad' : Nat → Nat) (S' : Mem), oc = .returned (r.map (cv ad')) ∧ Φ r S' ∧ mN S ≤ mN S' ∧ (∀ k, k < mN S → ad' k = ad k) ∧ (∀ v ∈ r.toList, rb (mN S') v) ∧ mwf S' ∧ (∀ p, p < mN S' → p < 44 → mK S' p = K0 p) ∧ va_P D CL (wl c4 ad' S') t.heap ∧ va_D (va_A (wl c4 ad S) sz) (wl c4 ad' S')) ∧ va_F (va_A (wl c4 ad S) sz) st t
/-- the method y, called with a over the memory S, comes back with an answer and a memory of which Φ is so -/
def Ok (y : MethodName) (cc : ByteArray) (nL : Nat) (ret : Option FieldType) (d mc ms : Nat) (a : List Value) (S : Mem) (Φ : Option Value → Mem → Prop) : Prop :=
  ∀ (l : Launch) (D : va_G) (c4 : Nat → ClassId) (ad : Nat → Nat) (sz : Nat), Met l y (.code y cc nL ret :: UT) { frames := d, cells := mc, slots := ms, locals := 40 * d } (Po c4 D ad sz a S) (Qo c4 D ad sz S Φ) mc ms (va_A (wl c4 ad S) sz)
theorem Ok.weaken {y : MethodName} {cc : ByteArray} {nL : Nat} {ret : Option FieldType} {d mc ms : Nat} {a : List Value} {S : Mem} {Φ Ψ : Option Value → Mem → Prop} (h : Ok y cc nL ret d mc ms a S Φ) (hi : ∀ r S', Φ r S' → Ψ r S') : Ok y cc nL ret d mc ms a S Ψ := by
  intro l D c4 ad sz p e ha hc hk s m args below hf happ hP hx
  obtain ⟨n, o, h1, h2, h3, ⟨⟨r, ad', S', e1, e2, e3⟩, hF⟩, hL⟩ := h l D c4 ad sz p e ha hc hk s m args below hf happ hP hx
  exact ⟨n, o, h1, h2, h3, ⟨⟨r, ad', S', e1, hi _ _ e2, e3⟩, hF⟩, hL⟩
def entL (a : List Value) : List Value := a.flatMap (fun v => if v.category = 2 then [v, .float 0] else [v])
theorem entL_cons (v : Value) (a : List Value) : entL (v :: a) = (if v.category = 2 then [v, .float 0] else [v]) ++ entL a := by simp [entL]
theorem entL_len (ad : Nat → Nat) (a : List Value) : (lg_sl (a.map (cv ad))).length = (entL a).length := by
  induction a with
  | nil => rfl
  | cons v a ih =>
    have e : lg_sl ((v :: a).map (cv ad)) = (if (cv ad v).category = 2 then [.val (cv ad v), .second] else [.val (cv ad v)]) ++ lg_sl (a.map (cv ad)) := by simp [lg_sl]
    rw [e, entL_cons, cv_cat, List.length_append, List.length_append, ih]
    by_cases h : v.category = 2
    · rw [if_pos h, if_pos h]; rfl
    · rw [if_neg h, if_neg h]; rfl
theorem entL_at (ad : Nat → Nat) : ∀ (a : List Value) (i0 i : Nat) (v : Value), (entL a)[i]? = some v → isF v = false → (i0 + i, cv ad v) ∈ lv_args i0 (a.map (cv ad))
  | [], i0, i, v, h, _ => by simp [entL] at h
  | w :: a, i0, i, v, h, hf => by
    rw [entL_cons] at h
    rw [List.map_cons, lv_args, cv_cat]
    by_cases hc : w.category = 2
    · rw [if_pos hc] at h ⊢
      match i, h with
      | 0, h =>
        cases h
        exact List.mem_cons_self
      | 1, h =>
        cases h
        cases hf
      | i + 2, h =>
        have h : (entL a)[i]? = some v := h
        have := entL_at ad a (i0 + 2) i v h hf
        rw [show i0 + (i + 2) = i0 + 2 + i by omega]
        exact List.mem_cons_of_mem _ this
    · rw [if_neg hc] at h ⊢
      match i, h with
      | 0, h =>
        cases h
        exact List.mem_cons_self
      | i + 1, h =>
        have h : (entL a)[i]? = some v := h
        have := entL_at ad a (i0 + 1) i v h hf
        rw [show i0 + (i + 1) = i0 + 1 + i by omega]
        exact List.mem_cons_of_mem _ this
theorem entL_rb {n : Nat} {a : List Value} (h : ∀ v ∈ a, rb n v) : ∀ v ∈ entL a, rb n v := by
  intro v hv
  unfold entL at hv
  obtain ⟨w, hw, hv⟩ := List.mem_flatMap.mp hv
  by_cases hc : w.category = 2
  · rw [if_pos hc] at hv
    rcases List.mem_cons.mp hv with rfl | hv
    · exact h v hw
    · rcases List.mem_cons.mp hv with rfl | hv
      · trivial
      · cases hv
  · rw [if_neg hc] at hv
    rcases List.mem_cons.mp hv with rfl | hv
    · exact h v hw
    · cases hv
theorem Ok.of {y : MethodName} {cc : ByteArray} {nL : Nat} {ret : Option FieldType} {d mc ms : Nat} {a ls : List Value} {S : Mem} {Φ : Option Value → Mem → Prop} (hy : plainName y.cls = true) (hle : (entL a).length ≤ nL) (hls : entL a ++ List.replicate (nL - (entL a).length) (.float 0) = ls)
    (body : ∀ κ : Kx, Cx y.cls cc nL ret d (decide (y.name = "<init>")) Φ κ → kx κ = none → G κ mc ms S 0 ls []) : Ok y cc nL ret d mc ms a S Φ := by
  subst hls
  intro l D c4 ad sz
  refine Met.ofW (cc := cc) (maxL := nL) (ret := ret) hy rfl ?_
  intro p e s m args below meth c s₁ B hml hv
  obtain ⟨rfl, hsz, ⟨hP, hK, hD, hm, hk0, hN, hAO⟩, hrb⟩ := hv
  subst hsz
  have hx := B.exec
  have hb := B.bytes
  have hr := B.returns
  have hts := atoms_spec (ws := Cond.code y cc nL ret :: UT) B.pre
  have hown : s.vm.findClass y.cls = some m.cls := findClass_of_methodNamed B.named
  have hlocks := B.notSynchronized
  have hin : meth.name = y.name := (name_of_methodNamed B.named B.method).1
  have hG := body ((p, l, e, (headSpec (Cond.code y cc nL ret :: UT) { frames := d, cells := mc, slots := ms, locals := 40 * d }).room, s), (m, (a.map (cv ad)).toArray, below, meth, c), D, c4, va_A (wl c4 ad S) s.heap.size, MQ below (Qo c4 D ad s.heap.size S Φ) (a.map (cv ad)).toArray s mc ms (va_A (wl c4 ad S) s.heap.size), mN S, ad, mc, ms, none)
    ⟨⟨hx, hb, hml, hown, fun w hw => hts w (List.mem_cons_of_mem _ hw)⟩, ⟨hK, hN, hAO⟩, ⟨fun q h => Or.inr h, Nat.le_refl _, Nat.le_refl _⟩, ⟨Nat.le_refl _, Nat.le_refl _⟩, fun h => hin.trans (of_decide_eq_true h), ?_⟩ rfl
  · rw [lg_entry_eq]
    have hl := lv_entry (a.map (cv ad)) (n := nL) (by rw [entL_len]; exact hle)
    refine hG ad s.heap [] _ 0 0 ⟨hP, hD.self, va_S.rf, hm, fun _ _ => rfl, Nat.le_refl _, hk0, by show 0 + mc ≤ mc; omega, by show 0 + ms ≤ ms; omega⟩ ⟨⟨hl.1.trans hml.symm, hl.2.1, ?_, fun i v hi hf => ?_⟩, fun v hv => ?_, fun b hb => by cases hb⟩ (fun v hv => by cases hv)
    · rw [List.length_append, List.length_replicate]
      show _ ≤ c.maxLocals
      omega
    · by_cases hil : i < (entL a).length
      · rw [List.getElem?_append_left hil] at hi
        have := hl.2.2 _ (entL_at ad a 0 i v hi hf)
        rw [Nat.zero_add] at this
        exact this
      · rw [List.getElem?_append_right (by omega)] at hi
        have := List.eq_of_mem_replicate (List.mem_of_getElem? hi)
        subst this
        cases hf
    · rcases List.mem_append.mp hv with h | h
      · exact entL_rb hrb v h
      · have := List.eq_of_mem_replicate h
        subst this
        trivial
  · intro r S' ad' H locs lsA cells slots pc ins hw hrr hΦ hrt hdec
    obtain ⟨w1, w2, w3, w4, w5, w6, w7, w8, w9⟩ := hw
    refine W.widen (k := mc) (n := ms) w8 w9 ?_
    have hq : ∀ t : State, t.heap = H → s.WarmedH t.vm → Qo c4 D ad s.heap.size S Φ (a.map (cv ad)).toArray s (.returned (r.map (cv ad'))) t := fun t ht hW => ⟨⟨r, ad', S', rfl, hΦ, w6, w5, hrr, w4, w7, by rw [ht]; exact w1, w2⟩, va_S.F w3 ht⟩
    rcases hrt with ⟨e1, e2, e3⟩ | ⟨e1, ⟨v, e2⟩, e3⟩ | ⟨e1, ⟨v, e2, e4⟩, e3⟩ | ⟨⟨nm, e1⟩, ⟨x, e2⟩, e3⟩
    · subst e2; subst e3
      exact W.vret hx hb (hr.trans e1) hq w3.2.2 hdec hlocks
    · subst e2; subst e3
      exact W.iret hx hb (hr.trans e1) hq w3.2.2 hdec hlocks
    · subst e2; subst e3
      exact W.zret (ty := .boolean) hx hb (hr.trans e1) (by rcases e4 with rfl | rfl <;> decide) hq w3.2.2 hdec hlocks
    · subst e2; subst e3
      have hq2 : ∀ t : State, t.heap = H → s.WarmedH t.vm → Qo c4 D ad s.heap.size S Φ (a.map (cv ad)).toArray s (.returned (some (cv ad' (va_rf x)))) t := hq
      refine W.aret (v := cv ad' (va_rf x)) hx hb (hr.trans e1) (Or.inl ⟨nm, rfl⟩) ?_ hq2 w3.2.2 hdec hlocks
      cases x with
      | none => exact Or.inl rfl
      | some k => exact Or.inr ⟨_, rfl⟩
section CROWS
variable {own : String} {cc : ByteArray} {nL : Nat} {ret : Option FieldType} {d : Nat} {ini : Bool} {Φ : Option Value → Mem → Prop} {κ : Kx} {rc rs : Nat} {S : Mem} {pc q : Nat} {ls st : List Value}
variable {y : MethodName} {cc' : ByteArray} {nL' : Nat} {ret' : Option FieldType} {d' mc' ms' : Nat} {a : List Value} {Ψ : Option Value → Mem → Prop}
theorem g_callK (C : Cx own cc nL ret d ini Φ κ) {st0 : List Value} {av : (Nat → Nat) → Array Value} (hst : ∀ v ∈ st0, (v ∈ a ∨ v ∈ st)) (hs0 : ∀ v ∈ st, v ∈ st0)
    (hr : ∀ (ad : Nat → Nat) (H : Heap) (locs : List Loc) (lsA : Array Slot) (cells slots : Nat), Wd κ (rc + mc') (rs + ms') S ad H locs cells slots → Lo κ S ad lsA ls → (∀ v ∈ st0, rb (mN S) v) → va_Run (kp κ) (kl κ) (ke κ) (kR κ) (ks κ) (km κ) (ka κ) (kb κ) (kh κ) (kc κ) H locs cells slots mc' ms' (F0 (km κ) pc lsA (st0.map (cv ad))) (st.map (cv ad)) (Qo (k4 κ) (kD κ) ad H.size S Ψ (av ad)) (va_A (wl (k4 κ) ad S) H.size))
    (k : ∀ r S', Ψ r S' → mN S ≤ mN S' → G κ rc rs S' (pc + 3) ls (r.toList ++ st)) : G κ (rc + mc') (rs + ms') S pc ls st0 := by
  intro ad H locs lsA cells slots hw hl hs T hT X
  obtain ⟨v, st₀, t, T', L, h0, X', hL, e1, e2, ⟨⟨r, ad', S', hv, hΨ, hn, hag, hrb, hm, hk0, hP, hD⟩, hz, hkq⟩, stp⟩ := hr ad H locs lsA cells slots hw hl hs T hT X
  have hv : v = r.map (cv ad') := by cases hv; rfl
  subst hv
  have hfree : ∀ x, va_A (wl (k4 κ) ad S) H.size x → kA κ x := by
    intro x hx
    rcases hx with ⟨i, e, hx⟩ | hx
    · exact hw.2.1.2 i (x, e) hx
    · exact C.2.2.1.1 x (Nat.le_trans hw.2.2.1.1 hx)
  rw [h0] at hz hkq
  have hsS : ∀ v ∈ st, rb (mN S) v := fun v h => hs v (hs0 v h)
  have key := k r S' hΨ hn ad' T'.heap (locs ++ L) lsA (cells + mc') (slots + ms') ⟨by rw [e1]; exact hP, hD.weaken (fun _ _ _ h => hfree _ h), ⟨Nat.le_trans hw.2.2.1.1 (by rw [e1]; exact hz), fun x h1 h2 => by rw [e1, hkq x (Nat.lt_of_lt_of_le h1 hw.2.2.1.1) (fun z => h2 (hfree x z))]; exact hw.2.2.1.2.1 x h1 h2, fun x hx => by
      rcases List.mem_append.mp hx with h | h
      · exact hw.2.2.1.2.2 x h
      · exact hfree _ (hL x h)⟩, hm, fun j hj => by rw [hag j (Nat.lt_of_lt_of_le hj hw.2.2.2.2.2.1)]; exact hw.2.2.2.2.1 j hj, Nat.le_trans hw.2.2.2.2.2.1 hn, hk0, by have := hw.2.2.2.2.2.2.2.1; omega, by have := hw.2.2.2.2.2.2.2.2; omega⟩
    ⟨⟨hl.1.1, hl.1.2.1, hl.1.2.2.1, fun i v hv hf => by rw [cv_same hag (hl.2.1 v (List.mem_of_getElem? hv))]; exact hl.1.2.2.2 i v hv hf⟩, fun v hv => rb_mono hn (hl.2.1 v hv), hl.2.2⟩
    (fun v hv => by
      rcases List.mem_append.mp hv with h | h
      · exact hrb v h
      · exact rb_mono hn (hsS v h))
  have est : (r.toList ++ st).map (cv ad') = (r.map (cv ad')).toList ++ st.map (cv ad) := by
    rw [List.map_append, cv_sameL hag hsS]
    cases r <;> rfl
  rw [est] at key
  obtain ⟨t2, a1, b1⟩ := key T' rfl X'
  exact ⟨t2, stp t2 a1, b1⟩
/-- what the tables say of a method: an own one, a static one -/
def Mw (y : MethodName) (cc : ByteArray) (nL : Nat) (ret : Option FieldType) (n : Nat) : Prop := (Cond.code y cc nL ret ∈ UT ∧ Cond.initialized y.cls ∈ UT) ∧ (y.cls ≠ "java/lang/invoke/MethodHandle" ∧ y.cls ≠ "java/lang/invoke/VarHandle" ∧ (parseMethodDescriptor y.desc).map (fun d => d.parameters.length) = some n) ∧ nL ≤ 21
theorem ut_ws (hm : Cond.code y cc' nL' ret' ∈ UT) : GoodIn UT (.code y cc' nL' ret' :: UT) := fun w h => by
  rcases List.mem_cons.mp h with rfl | h
  · exact ut_good _ hm
  · exact ut_good _ h
theorem room_ok (C : Cx own cc nL ret d ini Φ κ) (hdp : d' < d) (hL : nL' ≤ 21) : d' + 1 ≤ (kR κ).frames ∧ 8 + (nL' + 11) + 40 * d' ≤ (kR κ).locals := by
  have h1 := C.2.2.2.1.1
  have h2 := C.2.2.2.1.2
  omega
theorem wo_of (C : Cx own cc nL ret d ini Φ κ) {ad : Nat → Nat} {H : Heap} {locs : List Loc} {cells slots : Nat} (hw : Wd κ rc rs S ad H locs cells slots) {U : State} (hU : U.heap = H) (hW : (ks κ).WarmedH U.vm) : Wo (kD κ) (k4 κ) ad S U := ⟨by rw [hU]; exact hw.1, va_K.moved hW.alike C.2.1.1, hw.2.1.weaken (fun _ _ _ _ => trivial), hw.2.2.2.1, hw.2.2.2.2.2.2.1, fun x hx => va_Nw.warmM hW (C.2.1.2.1 x hx), va_AO.moved hW.alike C.2.1.2.2⟩
theorem po_blind (c4 : Nat → ClassId) (D : va_G) (ad : Nat → Nat) (sz : Nat) (a : List Value) (S : Mem) : FrameBlind (Po c4 D ad sz a S) := by
  intro v U g mk h
  obtain ⟨h1, h2, ⟨hP, hK, hD, hm, hk0, hN, hAO⟩, h3⟩ := h
  exact ⟨h1, h2, ⟨hP, va_K.moved (u := U) (U := U.calling g mk v) (Vm.Alike.refl U.vm) hK, hD, hm, hk0, fun x hx => va_Nw.same rfl (u := U) (U := U.calling g mk v) rfl (hN x hx), va_AO.moved (u := U) (U := U.calling g mk v) (Vm.Alike.refl U.vm) hAO⟩, h3⟩
theorem g_callV (C : Cx own cc nL ret d ini Φ κ) {b ci n index : Nat} {As : List Value} (hd : decode cc pc = .ok (.invokevirtual index, 3)) (hu : Cond.methodLink own index y ∈ UT) (hm : Mw y cc' nL' ret' n) (hin : Cond.instanceMethod y ∈ UT) (hse : Cond.selects y.cls y y ∈ UT) (hO : Ok y cc' nL' ret' d' mc' ms' (.ref b :: As) S Ψ) (hdp : d' < d) (hn : As.length = n) (hK : mK S b = ci) (hc : ci < 9) (hcn : CN ci = y.cls) (hsm : (st.map fun v => v.category).sum ≤ 8)
    (k : ∀ r S', Ψ r S' → mN S ≤ mN S' → G κ rc rs S' (pc + 3) ls (r.toList ++ st)) : G κ (rc + mc') (rs + ms') S pc ls (As.reverse ++ .ref b :: st) := by
  refine g_callK (a := .ref b :: As) (av := fun ad => (Value.ref (ad b) :: As.map (cv ad)).toArray) C (fun v hv => ?_) (fun v hv => List.mem_append_right _ (List.mem_cons_of_mem _ hv)) (fun ad H locs lsA cells slots hw hl hs => ?_) k
  · rcases List.mem_append.mp hv with h | h
    · exact Or.inl (List.mem_cons_of_mem _ (List.mem_reverse.mp h))
    · rcases List.mem_cons.mp h with rfl | h
      · exact Or.inl List.mem_cons_self
      · exact Or.inr h
  · have hb : b < mN S := hs (.ref b) (List.mem_append_right _ List.mem_cons_self)
    have hrb : ∀ v ∈ (Value.ref b :: As), rb (mN S) v := fun v hv => by
      rcases List.mem_cons.mp hv with rfl | h
      · exact hb
      · exact hs v (List.mem_append_left _ (List.mem_reverse.mpr h))
    have hG : GoodIn UT (wsV own index y.cls y (.code y cc' nL' ret' :: UT)) := fun w h => by
      unfold wsV at h
      rcases List.mem_append.mp h with h | h
      · rcases List.mem_cons.mp h with rfl | h
        · exact ut_good _ hu
        · rcases List.mem_cons.mp h with rfl | h
          · exact ut_good _ hin
          · rcases List.mem_cons.mp h with rfl | h
            · exact ut_good _ hse
            · rcases List.mem_cons.mp h with rfl | h
              · exact ut_good _ hm.1.2
              · cases h
      · exact ut_ws hm.1.1 w h
    have h1 := C.2.2.1.2.1
    have h2 := C.2.2.1.2.2
    have h3 := hw.2.2.2.2.2.2.2.1
    have h4 := hw.2.2.2.2.2.2.2.2
    exact va_runV (C := y.cls) (b := ad b) (As := As.map (cv ad)) (rest := st.map (cv ad)) C.1 (hO (kl κ) (kD κ) (k4 κ) ad H.size) (cwV n C.1.2.2.2.2 hG rfl rfl rfl ⟨rfl, hm.2.1⟩ (room_ok C hdp hm.2.2)) ⟨po_blind _ _ _ _ _ _, by
        have := va_recv C.2.1.1 hw.1 (CL_at hc) (show (wl (k4 κ) ad S)[b]? = some (ad b, .inr (ci, _)) by rw [wl_get hb, celE_obj hK hc])
        rw [← hcn]
        exact this, fun U hU hW => ⟨rfl, by rw [hU], wo_of C hw hU hW, hrb⟩⟩ rfl (by rw [List.length_map]; exact hn) (hl.1.1.trans C.1.2.2.1) (by show _ = _; simp [List.map_append, cv]) (lv_room (by rw [cat_sum]; exact hsm)) hd ⟨by omega, by omega⟩
theorem g_callS (C : Cx own cc nL ret d ini Φ κ) {n index : Nat} {As : List Value} (hd : decode cc pc = .ok (.invokestatic index, 3)) (hu : Cond.methodLink own index y ∈ UT) (hm : Mw y cc' nL' ret' n) (hst : Cond.static y ∈ UT) (hO : Ok y cc' nL' ret' d' mc' ms' As S Ψ) (hdp : d' < d) (hn : As.length = n) (hsm : (st.map fun v => v.category).sum ≤ 8)
    (k : ∀ r S', Ψ r S' → mN S ≤ mN S' → G κ rc rs S' (pc + 3) ls (r.toList ++ st)) : G κ (rc + mc') (rs + ms') S pc ls (As.reverse ++ st) := by
  refine g_callK (a := As) (av := fun ad => (As.map (cv ad)).toArray) C (fun v hv => ?_) (fun v hv => List.mem_append_right _ hv) (fun ad H locs lsA cells slots hw hl hs => ?_) k
  · rcases List.mem_append.mp hv with h | h
    · exact Or.inl (List.mem_reverse.mp h)
    · exact Or.inr h
  · have hrb : ∀ v ∈ As, rb (mN S) v := fun v hv => hs v (List.mem_append_left _ (List.mem_reverse.mpr hv))
    have hG : GoodIn UT (va_wsS own index y (.code y cc' nL' ret' :: UT)) := fun w h => by
      unfold va_wsS at h
      rcases List.mem_append.mp h with h | h
      · rcases List.mem_cons.mp h with rfl | h
        · exact ut_good _ hu
        · rcases List.mem_cons.mp h with rfl | h
          · exact ut_good _ hst
          · rcases List.mem_cons.mp h with rfl | h
            · exact ut_good _ hm.1.2
            · cases h
      · exact ut_ws hm.1.1 w h
    have h1 := C.2.2.1.2.1
    have h2 := C.2.2.1.2.2
    have h3 := hw.2.2.2.2.2.2.2.1
    have h4 := hw.2.2.2.2.2.2.2.2
    exact va_runS (As := As.map (cv ad)) (rest := st.map (cv ad)) C.1 (hO (kl κ) (kD κ) (k4 κ) ad H.size) (va_cwS n C.1.2.2.2.2 hG rfl rfl rfl hm.2.1 (room_ok C hdp hm.2.2)) ⟨po_blind _ _ _ _ _ _, fun U hU hW => ⟨rfl, by rw [hU], wo_of C hw hU hW, hrb⟩⟩ rfl (by rw [List.length_map]; exact hn) (hl.1.1.trans C.1.2.2.1) (by show _ = _; simp [List.map_append]) (lv_room (by rw [cat_sum]; exact hsm)) hd ⟨by omega, by omega⟩
theorem g_callSN (C : Cx own cc nL ret d ini Φ κ) {n index : Nat} {host : String} {As : List Value} (hd : decode cc pc = .ok (.invokestatic index, 3)) (hu : (own, index, y, host) ∈ NW) (hm : Mw y cc' nL' ret' n) (hst : Cond.static y ∈ UT) (hO : Ok y cc' nL' ret' d' mc' ms' As S Ψ) (hdp : d' < d) (hn : As.length = n) (hsm : (st.map fun v => v.category).sum ≤ 8)
    (k : ∀ r S', Ψ r S' → mN S ≤ mN S' → G κ rc rs S' (pc + 3) ls (r.toList ++ st)) : G κ (rc + mc') (rs + ms') S pc ls (As.reverse ++ st) := by
  refine g_callK (a := As) (av := fun ad => (As.map (cv ad)).toArray) C (fun v hv => ?_) (fun v hv => List.mem_append_right _ hv) (fun ad H locs lsA cells slots hw hl hs => ?_) k
  · rcases List.mem_append.mp hv with h | h
    · exact Or.inl (List.mem_reverse.mp h)
    · exact Or.inr h
  · have hrb : ∀ v ∈ As, rb (mN S) v := fun v hv => hs v (List.mem_append_left _ (List.mem_reverse.mpr hv))
    have h1 := C.2.2.1.2.1
    have h2 := C.2.2.1.2.2
    have h3 := hw.2.2.2.2.2.2.2.1
    have h4 := hw.2.2.2.2.2.2.2.2
    exact va_runSN (As := As.map (cv ad)) (rest := st.map (cv ad)) C.1 (hO (kl κ) (kD κ) (k4 κ) ad H.size) ⟨va_cnB n C.1.2.2.2.2 (ut_ws hm.1.1) rfl rfl rfl (C.2.1.2.1 _ hu) (C.1.2.2.2.2 _ hm.1.2) hm.2.1 (room_ok C hdp hm.2.2), C.1.2.2.2.2 _ hst, trivial⟩ ⟨po_blind _ _ _ _ _ _, fun U hU hW => ⟨rfl, by rw [hU], wo_of C hw hU hW, hrb⟩⟩ rfl (by rw [List.length_map]; exact hn) (hl.1.1.trans C.1.2.2.1) (by show _ = _; simp [List.map_append]) (lv_room (by rw [cat_sum]; exact hsm)) hd ⟨by omega, by omega⟩
theorem g_callI (C : Cx own cc nL ret d ini Φ κ) {b n index : Nat} {As : List Value} (hd : decode cc pc = .ok (.invokespecial index, 3)) (hu : Cond.methodLink own index y ∈ UT) (hm : Mw y cc' nL' none n) (hin : Cond.instanceMethod y ∈ UT) (hy1 : y.name = "<init>") (hO : Ok y cc' nL' none d' mc' ms' (.ref b :: As) S Ψ) (hdp : d' < d) (hn : As.length = n) (hsm : (st.map fun v => v.category).sum ≤ 8)
    (k : ∀ r S', Ψ r S' → mN S ≤ mN S' → G κ rc rs S' (pc + 3) ls (r.toList ++ st)) : G κ (rc + mc') (rs + ms') S pc ls (As.reverse ++ .ref b :: st) := by
  refine g_callK (a := .ref b :: As) (av := fun ad => (Value.ref (ad b) :: As.map (cv ad)).toArray) C (fun v hv => ?_) (fun v hv => List.mem_append_right _ (List.mem_cons_of_mem _ hv)) (fun ad H locs lsA cells slots hw hl hs => ?_) k
  · rcases List.mem_append.mp hv with h | h
    · exact Or.inl (List.mem_cons_of_mem _ (List.mem_reverse.mp h))
    · rcases List.mem_cons.mp h with rfl | h
      · exact Or.inl List.mem_cons_self
      · exact Or.inr h
  · have hb : b < mN S := hs (.ref b) (List.mem_append_right _ List.mem_cons_self)
    have hrb : ∀ v ∈ (Value.ref b :: As), rb (mN S) v := fun v hv => by
      rcases List.mem_cons.mp hv with rfl | h
      · exact hb
      · exact hs v (List.mem_append_left _ (List.mem_reverse.mpr h))
    have h1 := C.2.2.1.2.1
    have h2 := C.2.2.1.2.2
    have h3 := hw.2.2.2.2.2.2.2.1
    have h4 := hw.2.2.2.2.2.2.2.2
    exact va_runI (b := ad b) (As := As.map (cv ad)) (rest := st.map (cv ad)) C.1 (hO (kl κ) (kD κ) (k4 κ) ad H.size) (cwI n C.1.2.2.2.2 (ut_ws hm.1.1) rfl rfl rfl (C.1.2.2.2.2 _ hm.1.2) (C.1.2.2.2.2 _ hu) (C.1.2.2.2.2 _ hin) hy1 hm.2.1 (room_ok C hdp hm.2.2)) ⟨po_blind _ _ _ _ _ _, fun U hU hW => ⟨rfl, by rw [hU], wo_of C hw hU hW, hrb⟩⟩ rfl (by rw [List.length_map]; exact hn) (hl.1.1.trans C.1.2.2.1) (by show _ = _; simp [List.map_append, cv]) (lv_room (by rw [cat_sum]; exact hsm)) hd ⟨by omega, by omega⟩
theorem g_callIN (C : Cx own cc nL ret d ini Φ κ) {b n index : Nat} {host : String} {As : List Value} (hd : decode cc pc = .ok (.invokespecial index, 3)) (hu : (own, index, y, host) ∈ NW) (hm : Mw y cc' nL' none n) (hin : Cond.instanceMethod y ∈ UT) (hy1 : y.name = "<init>") (hO : Ok y cc' nL' none d' mc' ms' (.ref b :: As) S Ψ) (hdp : d' < d) (hn : As.length = n) (hsm : (st.map fun v => v.category).sum ≤ 8)
    (k : ∀ r S', Ψ r S' → mN S ≤ mN S' → G κ rc rs S' (pc + 3) ls (r.toList ++ st)) : G κ (rc + mc') (rs + ms') S pc ls (As.reverse ++ .ref b :: st) := by
  refine g_callK (a := .ref b :: As) (av := fun ad => (Value.ref (ad b) :: As.map (cv ad)).toArray) C (fun v hv => ?_) (fun v hv => List.mem_append_right _ (List.mem_cons_of_mem _ hv)) (fun ad H locs lsA cells slots hw hl hs => ?_) k
  · rcases List.mem_append.mp hv with h | h
    · exact Or.inl (List.mem_cons_of_mem _ (List.mem_reverse.mp h))
    · rcases List.mem_cons.mp h with rfl | h
      · exact Or.inl List.mem_cons_self
      · exact Or.inr h
  · have hb : b < mN S := hs (.ref b) (List.mem_append_right _ List.mem_cons_self)
    have hrb : ∀ v ∈ (Value.ref b :: As), rb (mN S) v := fun v hv => by
      rcases List.mem_cons.mp hv with rfl | h
      · exact hb
      · exact hs v (List.mem_append_left _ (List.mem_reverse.mpr h))
    have h1 := C.2.2.1.2.1
    have h2 := C.2.2.1.2.2
    have h3 := hw.2.2.2.2.2.2.2.1
    have h4 := hw.2.2.2.2.2.2.2.2
    exact va_runIN (b := ad b) (As := As.map (cv ad)) (rest := st.map (cv ad)) C.1 (hO (kl κ) (kD κ) (k4 κ) ad H.size) ⟨va_cnB n C.1.2.2.2.2 (ut_ws hm.1.1) rfl rfl rfl (C.2.1.2.1 _ hu) (C.1.2.2.2.2 _ hm.1.2) hm.2.1 (room_ok C hdp hm.2.2), hy1, C.1.2.2.2.2 _ hin⟩ ⟨po_blind _ _ _ _ _ _, fun U hU hW => ⟨rfl, by rw [hU], wo_of C hw hU hW, hrb⟩⟩ rfl (by rw [List.length_map]; exact hn) (hl.1.1.trans C.1.2.2.1) (by show _ = _; simp [List.map_append, cv]) (lv_room (by rw [cat_sum]; exact hsm)) hd ⟨by omega, by omega⟩
theorem g_max (C : Cx own cc nL ret d ini Φ κ) {index : Nat} {x z : Int32} (hd : decode cc pc = .ok (.invokestatic index, 3)) (hq : pc + 3 = q) (hu : Cond.methodLink own index Lib.Math.max.name ∈ UT) (hdp : 1 ≤ d) (hsm : (st.map fun v => v.category).sum ≤ 8) (k : G κ rc rs S q ls (.int (if x < z then z else x) :: st)) : G κ rc rs S pc ls (.int z :: .int x :: st) := by
  subst hq
  intro ad H locs lsA cells slots hw hl hs
  have h1 := C.2.2.1.2.1
  have h2 := C.2.2.1.2.2
  have h3 := hw.2.2.2.2.2.2.2.1
  have h4 := hw.2.2.2.2.2.2.2.2
  have h5 := C.2.2.2.1.1
  have h6 := C.2.2.2.1.2
  exact va_mmax C.1.1 C.1.2.1 (hl.1.1.symm) C.1.2.2.2.1 (C.1.2.2.2.2 _ hu) (C.1.2.2.2.2 _ sm_Lib_Math_max_name) (C.1.2.2.2.2 _ in_J9) (C.1.2.2.2.2 _ co_Lib_Math_max_name) (by omega) (by rw [cat_sum]; omega) (by omega) (by omega) hd (k ad H locs lsA cells slots hw hl (rb_i (rb_t (rb_t hs))))
theorem g_min (C : Cx own cc nL ret d ini Φ κ) {index : Nat} {x z : Int32} (hd : decode cc pc = .ok (.invokestatic index, 3)) (hq : pc + 3 = q) (hu : Cond.methodLink own index Lib.Math.min.name ∈ UT) (hdp : 1 ≤ d) (hsm : (st.map fun v => v.category).sum ≤ 8) (k : G κ rc rs S q ls (.int (if z < x then z else x) :: st)) : G κ rc rs S pc ls (.int z :: .int x :: st) := by
  subst hq
  intro ad H locs lsA cells slots hw hl hs
  have h1 := C.2.2.1.2.1
  have h2 := C.2.2.1.2.2
  have h3 := hw.2.2.2.2.2.2.2.1
  have h4 := hw.2.2.2.2.2.2.2.2
  have h5 := C.2.2.2.1.1
  have h6 := C.2.2.2.1.2
  exact va_mmin C.1.1 C.1.2.1 (hl.1.1.symm) C.1.2.2.2.1 (C.1.2.2.2.2 _ hu) (C.1.2.2.2.2 _ sm_Lib_Math_min_name) (C.1.2.2.2.2 _ in_J9) (C.1.2.2.2.2 _ co_Lib_Math_min_name) (by omega) (by rw [cat_sum]; omega) (by omega) (by omega) hd (k ad H locs lsA cells slots hw hl (rb_i (rb_t (rb_t hs))))
end CROWS
