/-! the references that never change; rows of calls by the number of words given and the kind of the answer -/
def R0 : Nat → Nat → Option Nat := fun p => match p with
  | 0 => fun j => match j with | 0 => some 1 | 1 => some 3 | 2 => some 5 | 3 => some 9 | 4 => some 12 | 5 => some 13 | 6 => some 14 | 7 => some 15 | _ => none
  | 1 => fun j => match j with | 0 => some 2 | _ => none
  | 3 => fun j => match j with | 0 => some 4 | _ => none
  | 5 => fun j => match j with | 0 => some 6 | 1 => some 7 | 2 => some 8 | _ => none
  | 9 => fun j => match j with | 0 => some 10 | 1 => some 11 | _ => none
  | 16 => fun j => match j with | 0 => some 17 | 1 => some 18 | 2 => some 19 | _ => none
  | 20 => fun j => match j with | 0 => some 21 | 1 => some 22 | 2 => some 23 | _ => none
  | 25 => fun j => match j with | 2 => some 26 | 3 => some 27 | 4 => some 28 | 5 => some 29 | 7 => some 30 | 15 => some 31 | 16 => some 32 | 17 => some 33 | 20 => some 34 | 21 => some 35 | 23 => some 36 | 24 => some 37 | 25 => some 38 | 26 => some 39 | 28 => some 40 | 29 => some 41 | 30 => some 42 | 31 => some 43 | _ => none
  | _ => fun _ => none
def Rs (S : Mem) : Prop := ∀ p j r, R0 p j = some r → mR S p j = some r
def RI (v : Int32) (S1 : Mem) : Option Value → Mem → Prop := fun r S' => r = some (.int v) ∧ S' = S1
def RV (S1 : Mem) : Option Value → Mem → Prop := fun r S' => r = none ∧ S' = S1
def RR (x : Option Nat) (S1 : Mem) : Option Value → Mem → Prop := fun r S' => r = some (va_rf x) ∧ S' = S1
def bI (b : Bool) : Int32 := if b = true then 1 else 0
theorem bI_01 (b : Bool) : bI b = 0 ∨ bI b = 1 := by cases b <;> decide
def Mv (y : MethodName) (cc : ByteArray) (nL : Nat) (ret : Option FieldType) (n : Nat) : Prop := Mw y cc nL ret n ∧ Cond.instanceMethod y ∈ UT ∧ Cond.selects y.cls y y ∈ UT
def Ms (y : MethodName) (cc : ByteArray) (nL : Nat) (ret : Option FieldType) (n : Nat) : Prop := Mw y cc nL ret n ∧ Cond.static y ∈ UT
def Mc (y : MethodName) (cc : ByteArray) (nL : Nat) (n : Nat) : Prop := Mw y cc nL none n ∧ Cond.instanceMethod y ∈ UT ∧ y.name = "<init>"
section CALLN
variable {own : String} {cc : ByteArray} {nL : Nat} {ret : Option FieldType} {d : Nat} {ini : Bool} {Φ : Option Value → Mem → Prop} {κ : Kx} {rc rs rc0 rs0 : Nat} {S S1 : Mem} {pc q : Nat} {ls st : List Value}
variable {y : MethodName} {cc' : ByteArray} {nL' : Nat} {ret' : Option FieldType} {d' mc' ms' : Nat}
theorem g_cV0i (C : Cx own cc nL ret d ini Φ κ) {b index : Nat} {v : Int32} (hd : decode cc pc = .ok (.invokevirtual index, 3)) (hq : pc + 3 = q) (hu : Cond.methodLink own index y ∈ UT) (hm : Mv y cc' nL' ret' 0) (hO : Ok y cc' nL' ret' d' mc' ms' [.ref b] S (RI v S1)) (hdp : d' < d) (hrc : rc + mc' = rc0) (hrs : rs + ms' = rs0) (hb : ck1 b 0 = true) (hcn : CN (K0 b) = y.cls) (hsm : (st.map fun v => v.category).sum ≤ 8) (k : mN S ≤ mN S1 → G κ rc rs S1 q ls (.int v :: st)) : G κ rc0 rs0 S pc ls (.ref b :: st) := by
  subst hq; subst hrc; subst hrs
  intro ad H locs lsA cells slots hw hl hs
  have hbn : b < mN S := hs (.ref b) (by simp)
  exact g_callV (As := []) C hd hu hm.1 hm.2.1 hm.2.2 hO hdp rfl (wk hw hbn (ck1_ok hb).1) (ck1_ok hb).2.1 hcn hsm (fun r S' h hn => by obtain ⟨rfl, rfl⟩ := h; exact k hn) ad H locs lsA cells slots hw hl hs
theorem g_cD0i (C : Cx own cc nL ret d ini Φ κ) {b ci index : Nat} {v : Int32} (hd : decode cc pc = .ok (.invokevirtual index, 3)) (hq : pc + 3 = q) (hu : Cond.methodLink own index y ∈ UT) (hm : Mv y cc' nL' ret' 0) (hO : Ok y cc' nL' ret' d' mc' ms' [.ref b] S (RI v S1)) (hdp : d' < d) (hrc : rc + mc' = rc0) (hrs : rs + ms' = rs0) (hb : mK S b = ci) (hc : ci < 9) (hcn : CN ci = y.cls) (hsm : (st.map fun v => v.category).sum ≤ 8) (k : mN S ≤ mN S1 → G κ rc rs S1 q ls (.int v :: st)) : G κ rc0 rs0 S pc ls (.ref b :: st) := by
  subst hq; subst hrc; subst hrs
  exact g_callV (As := []) C hd hu hm.1 hm.2.1 hm.2.2 hO hdp rfl hb hc hcn hsm (fun r S' h hn => by obtain ⟨rfl, rfl⟩ := h; exact k hn)
theorem g_cS0i (C : Cx own cc nL ret d ini Φ κ) {index : Nat} {v : Int32} (hd : decode cc pc = .ok (.invokestatic index, 3)) (hq : pc + 3 = q) (hu : Cond.methodLink own index y ∈ UT) (hm : Ms y cc' nL' ret' 0) (hO : Ok y cc' nL' ret' d' mc' ms' [] S (RI v S1)) (hdp : d' < d) (hrc : rc + mc' = rc0) (hrs : rs + ms' = rs0) (hsm : (st.map fun v => v.category).sum ≤ 8) (k : mN S ≤ mN S1 → G κ rc rs S1 q ls (.int v :: st)) : G κ rc0 rs0 S pc ls (st) := by
  subst hq; subst hrc; subst hrs
  exact g_callS (As := []) C hd hu hm.1 hm.2 hO hdp rfl hsm (fun r S' h hn => by obtain ⟨rfl, rfl⟩ := h; exact k hn)
theorem g_cN0i (C : Cx own cc nL ret d ini Φ κ) {index : Nat} {host : String} {v : Int32} (hd : decode cc pc = .ok (.invokestatic index, 3)) (hq : pc + 3 = q) (hu : (own, index, y, host) ∈ NW) (hm : Ms y cc' nL' ret' 0) (hO : Ok y cc' nL' ret' d' mc' ms' [] S (RI v S1)) (hdp : d' < d) (hrc : rc + mc' = rc0) (hrs : rs + ms' = rs0) (hsm : (st.map fun v => v.category).sum ≤ 8) (k : mN S ≤ mN S1 → G κ rc rs S1 q ls (.int v :: st)) : G κ rc0 rs0 S pc ls (st) := by
  subst hq; subst hrc; subst hrs
  exact g_callSN (As := []) C hd hu hm.1 hm.2 hO hdp rfl hsm (fun r S' h hn => by obtain ⟨rfl, rfl⟩ := h; exact k hn)
theorem g_cV0v (C : Cx own cc nL ret d ini Φ κ) {b index : Nat}  (hd : decode cc pc = .ok (.invokevirtual index, 3)) (hq : pc + 3 = q) (hu : Cond.methodLink own index y ∈ UT) (hm : Mv y cc' nL' ret' 0) (hO : Ok y cc' nL' ret' d' mc' ms' [.ref b] S (RV S1)) (hdp : d' < d) (hrc : rc + mc' = rc0) (hrs : rs + ms' = rs0) (hb : ck1 b 0 = true) (hcn : CN (K0 b) = y.cls) (hsm : (st.map fun v => v.category).sum ≤ 8) (k : mN S ≤ mN S1 → G κ rc rs S1 q ls st) : G κ rc0 rs0 S pc ls (.ref b :: st) := by
  subst hq; subst hrc; subst hrs
  intro ad H locs lsA cells slots hw hl hs
  have hbn : b < mN S := hs (.ref b) (by simp)
  exact g_callV (As := []) C hd hu hm.1 hm.2.1 hm.2.2 hO hdp rfl (wk hw hbn (ck1_ok hb).1) (ck1_ok hb).2.1 hcn hsm (fun r S' h hn => by obtain ⟨rfl, rfl⟩ := h; exact k hn) ad H locs lsA cells slots hw hl hs
theorem g_cD0v (C : Cx own cc nL ret d ini Φ κ) {b ci index : Nat}  (hd : decode cc pc = .ok (.invokevirtual index, 3)) (hq : pc + 3 = q) (hu : Cond.methodLink own index y ∈ UT) (hm : Mv y cc' nL' ret' 0) (hO : Ok y cc' nL' ret' d' mc' ms' [.ref b] S (RV S1)) (hdp : d' < d) (hrc : rc + mc' = rc0) (hrs : rs + ms' = rs0) (hb : mK S b = ci) (hc : ci < 9) (hcn : CN ci = y.cls) (hsm : (st.map fun v => v.category).sum ≤ 8) (k : mN S ≤ mN S1 → G κ rc rs S1 q ls st) : G κ rc0 rs0 S pc ls (.ref b :: st) := by
  subst hq; subst hrc; subst hrs
  exact g_callV (As := []) C hd hu hm.1 hm.2.1 hm.2.2 hO hdp rfl hb hc hcn hsm (fun r S' h hn => by obtain ⟨rfl, rfl⟩ := h; exact k hn)
theorem g_cS0v (C : Cx own cc nL ret d ini Φ κ) {index : Nat}  (hd : decode cc pc = .ok (.invokestatic index, 3)) (hq : pc + 3 = q) (hu : Cond.methodLink own index y ∈ UT) (hm : Ms y cc' nL' ret' 0) (hO : Ok y cc' nL' ret' d' mc' ms' [] S (RV S1)) (hdp : d' < d) (hrc : rc + mc' = rc0) (hrs : rs + ms' = rs0) (hsm : (st.map fun v => v.category).sum ≤ 8) (k : mN S ≤ mN S1 → G κ rc rs S1 q ls st) : G κ rc0 rs0 S pc ls (st) := by
  subst hq; subst hrc; subst hrs
  exact g_callS (As := []) C hd hu hm.1 hm.2 hO hdp rfl hsm (fun r S' h hn => by obtain ⟨rfl, rfl⟩ := h; exact k hn)
theorem g_cN0v (C : Cx own cc nL ret d ini Φ κ) {index : Nat} {host : String}  (hd : decode cc pc = .ok (.invokestatic index, 3)) (hq : pc + 3 = q) (hu : (own, index, y, host) ∈ NW) (hm : Ms y cc' nL' ret' 0) (hO : Ok y cc' nL' ret' d' mc' ms' [] S (RV S1)) (hdp : d' < d) (hrc : rc + mc' = rc0) (hrs : rs + ms' = rs0) (hsm : (st.map fun v => v.category).sum ≤ 8) (k : mN S ≤ mN S1 → G κ rc rs S1 q ls st) : G κ rc0 rs0 S pc ls (st) := by
  subst hq; subst hrc; subst hrs
  exact g_callSN (As := []) C hd hu hm.1 hm.2 hO hdp rfl hsm (fun r S' h hn => by obtain ⟨rfl, rfl⟩ := h; exact k hn)
theorem g_cI0 (C : Cx own cc nL ret d ini Φ κ) {b index : Nat} (hd : decode cc pc = .ok (.invokespecial index, 3)) (hq : pc + 3 = q) (hu : Cond.methodLink own index y ∈ UT) (hm : Mc y cc' nL' 0) (hO : Ok y cc' nL' none d' mc' ms' [.ref b] S (RV S1)) (hdp : d' < d) (hrc : rc + mc' = rc0) (hrs : rs + ms' = rs0) (hsm : (st.map fun v => v.category).sum ≤ 8) (k : mN S ≤ mN S1 → G κ rc rs S1 q ls st) : G κ rc0 rs0 S pc ls (.ref b :: st) := by
  subst hq; subst hrc; subst hrs
  exact g_callI (As := []) C hd hu hm.1 hm.2.1 hm.2.2 hO hdp rfl hsm (fun r S' h hn => by obtain ⟨rfl, rfl⟩ := h; exact k hn)
theorem g_cJ0 (C : Cx own cc nL ret d ini Φ κ) {b index : Nat} {host : String} (hd : decode cc pc = .ok (.invokespecial index, 3)) (hq : pc + 3 = q) (hu : (own, index, y, host) ∈ NW) (hm : Mc y cc' nL' 0) (hO : Ok y cc' nL' none d' mc' ms' [.ref b] S (RV S1)) (hdp : d' < d) (hrc : rc + mc' = rc0) (hrs : rs + ms' = rs0) (hsm : (st.map fun v => v.category).sum ≤ 8) (k : mN S ≤ mN S1 → G κ rc rs S1 q ls st) : G κ rc0 rs0 S pc ls (.ref b :: st) := by
  subst hq; subst hrc; subst hrs
  exact g_callIN (As := []) C hd hu hm.1 hm.2.1 hm.2.2 hO hdp rfl hsm (fun r S' h hn => by obtain ⟨rfl, rfl⟩ := h; exact k hn)
theorem g_cV0r (C : Cx own cc nL ret d ini Φ κ) {b index : Nat} {x : Option Nat} (hd : decode cc pc = .ok (.invokevirtual index, 3)) (hq : pc + 3 = q) (hu : Cond.methodLink own index y ∈ UT) (hm : Mv y cc' nL' ret' 0) (hO : Ok y cc' nL' ret' d' mc' ms' [.ref b] S (RR x S1)) (hdp : d' < d) (hrc : rc + mc' = rc0) (hrs : rs + ms' = rs0) (hb : ck1 b 0 = true) (hcn : CN (K0 b) = y.cls) (hsm : (st.map fun v => v.category).sum ≤ 8) (k : mN S ≤ mN S1 → G κ rc rs S1 q ls (va_rf x :: st)) : G κ rc0 rs0 S pc ls (.ref b :: st) := by
  subst hq; subst hrc; subst hrs
  intro ad H locs lsA cells slots hw hl hs
  have hbn : b < mN S := hs (.ref b) (by simp)
  exact g_callV (As := []) C hd hu hm.1 hm.2.1 hm.2.2 hO hdp rfl (wk hw hbn (ck1_ok hb).1) (ck1_ok hb).2.1 hcn hsm (fun r S' h hn => by obtain ⟨rfl, rfl⟩ := h; exact k hn) ad H locs lsA cells slots hw hl hs
theorem g_cD0r (C : Cx own cc nL ret d ini Φ κ) {b ci index : Nat} {x : Option Nat} (hd : decode cc pc = .ok (.invokevirtual index, 3)) (hq : pc + 3 = q) (hu : Cond.methodLink own index y ∈ UT) (hm : Mv y cc' nL' ret' 0) (hO : Ok y cc' nL' ret' d' mc' ms' [.ref b] S (RR x S1)) (hdp : d' < d) (hrc : rc + mc' = rc0) (hrs : rs + ms' = rs0) (hb : mK S b = ci) (hc : ci < 9) (hcn : CN ci = y.cls) (hsm : (st.map fun v => v.category).sum ≤ 8) (k : mN S ≤ mN S1 → G κ rc rs S1 q ls (va_rf x :: st)) : G κ rc0 rs0 S pc ls (.ref b :: st) := by
  subst hq; subst hrc; subst hrs
  exact g_callV (As := []) C hd hu hm.1 hm.2.1 hm.2.2 hO hdp rfl hb hc hcn hsm (fun r S' h hn => by obtain ⟨rfl, rfl⟩ := h; exact k hn)
theorem g_cV1i (C : Cx own cc nL ret d ini Φ κ) {b index : Nat} {a1 : Value} {v : Int32} (hd : decode cc pc = .ok (.invokevirtual index, 3)) (hq : pc + 3 = q) (hu : Cond.methodLink own index y ∈ UT) (hm : Mv y cc' nL' ret' 1) (hO : Ok y cc' nL' ret' d' mc' ms' [.ref b, a1] S (RI v S1)) (hdp : d' < d) (hrc : rc + mc' = rc0) (hrs : rs + ms' = rs0) (hb : ck1 b 0 = true) (hcn : CN (K0 b) = y.cls) (hsm : (st.map fun v => v.category).sum ≤ 8) (k : mN S ≤ mN S1 → G κ rc rs S1 q ls (.int v :: st)) : G κ rc0 rs0 S pc ls (a1 :: .ref b :: st) := by
  subst hq; subst hrc; subst hrs
  intro ad H locs lsA cells slots hw hl hs
  have hbn : b < mN S := hs (.ref b) (by simp)
  exact g_callV (As := [a1]) C hd hu hm.1 hm.2.1 hm.2.2 hO hdp rfl (wk hw hbn (ck1_ok hb).1) (ck1_ok hb).2.1 hcn hsm (fun r S' h hn => by obtain ⟨rfl, rfl⟩ := h; exact k hn) ad H locs lsA cells slots hw hl hs
theorem g_cD1i (C : Cx own cc nL ret d ini Φ κ) {b ci index : Nat} {a1 : Value} {v : Int32} (hd : decode cc pc = .ok (.invokevirtual index, 3)) (hq : pc + 3 = q) (hu : Cond.methodLink own index y ∈ UT) (hm : Mv y cc' nL' ret' 1) (hO : Ok y cc' nL' ret' d' mc' ms' [.ref b, a1] S (RI v S1)) (hdp : d' < d) (hrc : rc + mc' = rc0) (hrs : rs + ms' = rs0) (hb : mK S b = ci) (hc : ci < 9) (hcn : CN ci = y.cls) (hsm : (st.map fun v => v.category).sum ≤ 8) (k : mN S ≤ mN S1 → G κ rc rs S1 q ls (.int v :: st)) : G κ rc0 rs0 S pc ls (a1 :: .ref b :: st) := by
  subst hq; subst hrc; subst hrs
  exact g_callV (As := [a1]) C hd hu hm.1 hm.2.1 hm.2.2 hO hdp rfl hb hc hcn hsm (fun r S' h hn => by obtain ⟨rfl, rfl⟩ := h; exact k hn)
theorem g_cS1i (C : Cx own cc nL ret d ini Φ κ) {index : Nat} {a1 : Value} {v : Int32} (hd : decode cc pc = .ok (.invokestatic index, 3)) (hq : pc + 3 = q) (hu : Cond.methodLink own index y ∈ UT) (hm : Ms y cc' nL' ret' 1) (hO : Ok y cc' nL' ret' d' mc' ms' [a1] S (RI v S1)) (hdp : d' < d) (hrc : rc + mc' = rc0) (hrs : rs + ms' = rs0) (hsm : (st.map fun v => v.category).sum ≤ 8) (k : mN S ≤ mN S1 → G κ rc rs S1 q ls (.int v :: st)) : G κ rc0 rs0 S pc ls (a1 :: st) := by
  subst hq; subst hrc; subst hrs
  exact g_callS (As := [a1]) C hd hu hm.1 hm.2 hO hdp rfl hsm (fun r S' h hn => by obtain ⟨rfl, rfl⟩ := h; exact k hn)
theorem g_cN1i (C : Cx own cc nL ret d ini Φ κ) {index : Nat} {host : String} {a1 : Value} {v : Int32} (hd : decode cc pc = .ok (.invokestatic index, 3)) (hq : pc + 3 = q) (hu : (own, index, y, host) ∈ NW) (hm : Ms y cc' nL' ret' 1) (hO : Ok y cc' nL' ret' d' mc' ms' [a1] S (RI v S1)) (hdp : d' < d) (hrc : rc + mc' = rc0) (hrs : rs + ms' = rs0) (hsm : (st.map fun v => v.category).sum ≤ 8) (k : mN S ≤ mN S1 → G κ rc rs S1 q ls (.int v :: st)) : G κ rc0 rs0 S pc ls (a1 :: st) := by
  subst hq; subst hrc; subst hrs
  exact g_callSN (As := [a1]) C hd hu hm.1 hm.2 hO hdp rfl hsm (fun r S' h hn => by obtain ⟨rfl, rfl⟩ := h; exact k hn)
theorem g_cV1v (C : Cx own cc nL ret d ini Φ κ) {b index : Nat} {a1 : Value}  (hd : decode cc pc = .ok (.invokevirtual index, 3)) (hq : pc + 3 = q) (hu : Cond.methodLink own index y ∈ UT) (hm : Mv y cc' nL' ret' 1) (hO : Ok y cc' nL' ret' d' mc' ms' [.ref b, a1] S (RV S1)) (hdp : d' < d) (hrc : rc + mc' = rc0) (hrs : rs + ms' = rs0) (hb : ck1 b 0 = true) (hcn : CN (K0 b) = y.cls) (hsm : (st.map fun v => v.category).sum ≤ 8) (k : mN S ≤ mN S1 → G κ rc rs S1 q ls st) : G κ rc0 rs0 S pc ls (a1 :: .ref b :: st) := by
  subst hq; subst hrc; subst hrs
  intro ad H locs lsA cells slots hw hl hs
  have hbn : b < mN S := hs (.ref b) (by simp)
  exact g_callV (As := [a1]) C hd hu hm.1 hm.2.1 hm.2.2 hO hdp rfl (wk hw hbn (ck1_ok hb).1) (ck1_ok hb).2.1 hcn hsm (fun r S' h hn => by obtain ⟨rfl, rfl⟩ := h; exact k hn) ad H locs lsA cells slots hw hl hs
theorem g_cD1v (C : Cx own cc nL ret d ini Φ κ) {b ci index : Nat} {a1 : Value}  (hd : decode cc pc = .ok (.invokevirtual index, 3)) (hq : pc + 3 = q) (hu : Cond.methodLink own index y ∈ UT) (hm : Mv y cc' nL' ret' 1) (hO : Ok y cc' nL' ret' d' mc' ms' [.ref b, a1] S (RV S1)) (hdp : d' < d) (hrc : rc + mc' = rc0) (hrs : rs + ms' = rs0) (hb : mK S b = ci) (hc : ci < 9) (hcn : CN ci = y.cls) (hsm : (st.map fun v => v.category).sum ≤ 8) (k : mN S ≤ mN S1 → G κ rc rs S1 q ls st) : G κ rc0 rs0 S pc ls (a1 :: .ref b :: st) := by
  subst hq; subst hrc; subst hrs
  exact g_callV (As := [a1]) C hd hu hm.1 hm.2.1 hm.2.2 hO hdp rfl hb hc hcn hsm (fun r S' h hn => by obtain ⟨rfl, rfl⟩ := h; exact k hn)
theorem g_cS1v (C : Cx own cc nL ret d ini Φ κ) {index : Nat} {a1 : Value}  (hd : decode cc pc = .ok (.invokestatic index, 3)) (hq : pc + 3 = q) (hu : Cond.methodLink own index y ∈ UT) (hm : Ms y cc' nL' ret' 1) (hO : Ok y cc' nL' ret' d' mc' ms' [a1] S (RV S1)) (hdp : d' < d) (hrc : rc + mc' = rc0) (hrs : rs + ms' = rs0) (hsm : (st.map fun v => v.category).sum ≤ 8) (k : mN S ≤ mN S1 → G κ rc rs S1 q ls st) : G κ rc0 rs0 S pc ls (a1 :: st) := by
  subst hq; subst hrc; subst hrs
  exact g_callS (As := [a1]) C hd hu hm.1 hm.2 hO hdp rfl hsm (fun r S' h hn => by obtain ⟨rfl, rfl⟩ := h; exact k hn)
theorem g_cN1v (C : Cx own cc nL ret d ini Φ κ) {index : Nat} {host : String} {a1 : Value}  (hd : decode cc pc = .ok (.invokestatic index, 3)) (hq : pc + 3 = q) (hu : (own, index, y, host) ∈ NW) (hm : Ms y cc' nL' ret' 1) (hO : Ok y cc' nL' ret' d' mc' ms' [a1] S (RV S1)) (hdp : d' < d) (hrc : rc + mc' = rc0) (hrs : rs + ms' = rs0) (hsm : (st.map fun v => v.category).sum ≤ 8) (k : mN S ≤ mN S1 → G κ rc rs S1 q ls st) : G κ rc0 rs0 S pc ls (a1 :: st) := by
  subst hq; subst hrc; subst hrs
  exact g_callSN (As := [a1]) C hd hu hm.1 hm.2 hO hdp rfl hsm (fun r S' h hn => by obtain ⟨rfl, rfl⟩ := h; exact k hn)
theorem g_cI1 (C : Cx own cc nL ret d ini Φ κ) {b index : Nat} {a1 : Value} (hd : decode cc pc = .ok (.invokespecial index, 3)) (hq : pc + 3 = q) (hu : Cond.methodLink own index y ∈ UT) (hm : Mc y cc' nL' 1) (hO : Ok y cc' nL' none d' mc' ms' [.ref b, a1] S (RV S1)) (hdp : d' < d) (hrc : rc + mc' = rc0) (hrs : rs + ms' = rs0) (hsm : (st.map fun v => v.category).sum ≤ 8) (k : mN S ≤ mN S1 → G κ rc rs S1 q ls st) : G κ rc0 rs0 S pc ls (a1 :: .ref b :: st) := by
  subst hq; subst hrc; subst hrs
  exact g_callI (As := [a1]) C hd hu hm.1 hm.2.1 hm.2.2 hO hdp rfl hsm (fun r S' h hn => by obtain ⟨rfl, rfl⟩ := h; exact k hn)
theorem g_cJ1 (C : Cx own cc nL ret d ini Φ κ) {b index : Nat} {host : String} {a1 : Value} (hd : decode cc pc = .ok (.invokespecial index, 3)) (hq : pc + 3 = q) (hu : (own, index, y, host) ∈ NW) (hm : Mc y cc' nL' 1) (hO : Ok y cc' nL' none d' mc' ms' [.ref b, a1] S (RV S1)) (hdp : d' < d) (hrc : rc + mc' = rc0) (hrs : rs + ms' = rs0) (hsm : (st.map fun v => v.category).sum ≤ 8) (k : mN S ≤ mN S1 → G κ rc rs S1 q ls st) : G κ rc0 rs0 S pc ls (a1 :: .ref b :: st) := by
  subst hq; subst hrc; subst hrs
  exact g_callIN (As := [a1]) C hd hu hm.1 hm.2.1 hm.2.2 hO hdp rfl hsm (fun r S' h hn => by obtain ⟨rfl, rfl⟩ := h; exact k hn)
theorem g_cV1r (C : Cx own cc nL ret d ini Φ κ) {b index : Nat} {a1 : Value} {x : Option Nat} (hd : decode cc pc = .ok (.invokevirtual index, 3)) (hq : pc + 3 = q) (hu : Cond.methodLink own index y ∈ UT) (hm : Mv y cc' nL' ret' 1) (hO : Ok y cc' nL' ret' d' mc' ms' [.ref b, a1] S (RR x S1)) (hdp : d' < d) (hrc : rc + mc' = rc0) (hrs : rs + ms' = rs0) (hb : ck1 b 0 = true) (hcn : CN (K0 b) = y.cls) (hsm : (st.map fun v => v.category).sum ≤ 8) (k : mN S ≤ mN S1 → G κ rc rs S1 q ls (va_rf x :: st)) : G κ rc0 rs0 S pc ls (a1 :: .ref b :: st) := by
  subst hq; subst hrc; subst hrs
  intro ad H locs lsA cells slots hw hl hs
  have hbn : b < mN S := hs (.ref b) (by simp)
  exact g_callV (As := [a1]) C hd hu hm.1 hm.2.1 hm.2.2 hO hdp rfl (wk hw hbn (ck1_ok hb).1) (ck1_ok hb).2.1 hcn hsm (fun r S' h hn => by obtain ⟨rfl, rfl⟩ := h; exact k hn) ad H locs lsA cells slots hw hl hs
theorem g_cD1r (C : Cx own cc nL ret d ini Φ κ) {b ci index : Nat} {a1 : Value} {x : Option Nat} (hd : decode cc pc = .ok (.invokevirtual index, 3)) (hq : pc + 3 = q) (hu : Cond.methodLink own index y ∈ UT) (hm : Mv y cc' nL' ret' 1) (hO : Ok y cc' nL' ret' d' mc' ms' [.ref b, a1] S (RR x S1)) (hdp : d' < d) (hrc : rc + mc' = rc0) (hrs : rs + ms' = rs0) (hb : mK S b = ci) (hc : ci < 9) (hcn : CN ci = y.cls) (hsm : (st.map fun v => v.category).sum ≤ 8) (k : mN S ≤ mN S1 → G κ rc rs S1 q ls (va_rf x :: st)) : G κ rc0 rs0 S pc ls (a1 :: .ref b :: st) := by
  subst hq; subst hrc; subst hrs
  exact g_callV (As := [a1]) C hd hu hm.1 hm.2.1 hm.2.2 hO hdp rfl hb hc hcn hsm (fun r S' h hn => by obtain ⟨rfl, rfl⟩ := h; exact k hn)
theorem g_cV2i (C : Cx own cc nL ret d ini Φ κ) {b index : Nat} {a1 a2 : Value} {v : Int32} (hd : decode cc pc = .ok (.invokevirtual index, 3)) (hq : pc + 3 = q) (hu : Cond.methodLink own index y ∈ UT) (hm : Mv y cc' nL' ret' 2) (hO : Ok y cc' nL' ret' d' mc' ms' [.ref b, a1, a2] S (RI v S1)) (hdp : d' < d) (hrc : rc + mc' = rc0) (hrs : rs + ms' = rs0) (hb : ck1 b 0 = true) (hcn : CN (K0 b) = y.cls) (hsm : (st.map fun v => v.category).sum ≤ 8) (k : mN S ≤ mN S1 → G κ rc rs S1 q ls (.int v :: st)) : G κ rc0 rs0 S pc ls (a2 :: a1 :: .ref b :: st) := by
  subst hq; subst hrc; subst hrs
  intro ad H locs lsA cells slots hw hl hs
  have hbn : b < mN S := hs (.ref b) (by simp)
  exact g_callV (As := [a1, a2]) C hd hu hm.1 hm.2.1 hm.2.2 hO hdp rfl (wk hw hbn (ck1_ok hb).1) (ck1_ok hb).2.1 hcn hsm (fun r S' h hn => by obtain ⟨rfl, rfl⟩ := h; exact k hn) ad H locs lsA cells slots hw hl hs
theorem g_cD2i (C : Cx own cc nL ret d ini Φ κ) {b ci index : Nat} {a1 a2 : Value} {v : Int32} (hd : decode cc pc = .ok (.invokevirtual index, 3)) (hq : pc + 3 = q) (hu : Cond.methodLink own index y ∈ UT) (hm : Mv y cc' nL' ret' 2) (hO : Ok y cc' nL' ret' d' mc' ms' [.ref b, a1, a2] S (RI v S1)) (hdp : d' < d) (hrc : rc + mc' = rc0) (hrs : rs + ms' = rs0) (hb : mK S b = ci) (hc : ci < 9) (hcn : CN ci = y.cls) (hsm : (st.map fun v => v.category).sum ≤ 8) (k : mN S ≤ mN S1 → G κ rc rs S1 q ls (.int v :: st)) : G κ rc0 rs0 S pc ls (a2 :: a1 :: .ref b :: st) := by
  subst hq; subst hrc; subst hrs
  exact g_callV (As := [a1, a2]) C hd hu hm.1 hm.2.1 hm.2.2 hO hdp rfl hb hc hcn hsm (fun r S' h hn => by obtain ⟨rfl, rfl⟩ := h; exact k hn)
theorem g_cS2i (C : Cx own cc nL ret d ini Φ κ) {index : Nat} {a1 a2 : Value} {v : Int32} (hd : decode cc pc = .ok (.invokestatic index, 3)) (hq : pc + 3 = q) (hu : Cond.methodLink own index y ∈ UT) (hm : Ms y cc' nL' ret' 2) (hO : Ok y cc' nL' ret' d' mc' ms' [a1, a2] S (RI v S1)) (hdp : d' < d) (hrc : rc + mc' = rc0) (hrs : rs + ms' = rs0) (hsm : (st.map fun v => v.category).sum ≤ 8) (k : mN S ≤ mN S1 → G κ rc rs S1 q ls (.int v :: st)) : G κ rc0 rs0 S pc ls (a2 :: a1 :: st) := by
  subst hq; subst hrc; subst hrs
  exact g_callS (As := [a1, a2]) C hd hu hm.1 hm.2 hO hdp rfl hsm (fun r S' h hn => by obtain ⟨rfl, rfl⟩ := h; exact k hn)
theorem g_cN2i (C : Cx own cc nL ret d ini Φ κ) {index : Nat} {host : String} {a1 a2 : Value} {v : Int32} (hd : decode cc pc = .ok (.invokestatic index, 3)) (hq : pc + 3 = q) (hu : (own, index, y, host) ∈ NW) (hm : Ms y cc' nL' ret' 2) (hO : Ok y cc' nL' ret' d' mc' ms' [a1, a2] S (RI v S1)) (hdp : d' < d) (hrc : rc + mc' = rc0) (hrs : rs + ms' = rs0) (hsm : (st.map fun v => v.category).sum ≤ 8) (k : mN S ≤ mN S1 → G κ rc rs S1 q ls (.int v :: st)) : G κ rc0 rs0 S pc ls (a2 :: a1 :: st) := by
  subst hq; subst hrc; subst hrs
  exact g_callSN (As := [a1, a2]) C hd hu hm.1 hm.2 hO hdp rfl hsm (fun r S' h hn => by obtain ⟨rfl, rfl⟩ := h; exact k hn)
theorem g_cV2v (C : Cx own cc nL ret d ini Φ κ) {b index : Nat} {a1 a2 : Value}  (hd : decode cc pc = .ok (.invokevirtual index, 3)) (hq : pc + 3 = q) (hu : Cond.methodLink own index y ∈ UT) (hm : Mv y cc' nL' ret' 2) (hO : Ok y cc' nL' ret' d' mc' ms' [.ref b, a1, a2] S (RV S1)) (hdp : d' < d) (hrc : rc + mc' = rc0) (hrs : rs + ms' = rs0) (hb : ck1 b 0 = true) (hcn : CN (K0 b) = y.cls) (hsm : (st.map fun v => v.category).sum ≤ 8) (k : mN S ≤ mN S1 → G κ rc rs S1 q ls st) : G κ rc0 rs0 S pc ls (a2 :: a1 :: .ref b :: st) := by
  subst hq; subst hrc; subst hrs
  intro ad H locs lsA cells slots hw hl hs
  have hbn : b < mN S := hs (.ref b) (by simp)
  exact g_callV (As := [a1, a2]) C hd hu hm.1 hm.2.1 hm.2.2 hO hdp rfl (wk hw hbn (ck1_ok hb).1) (ck1_ok hb).2.1 hcn hsm (fun r S' h hn => by obtain ⟨rfl, rfl⟩ := h; exact k hn) ad H locs lsA cells slots hw hl hs
theorem g_cD2v (C : Cx own cc nL ret d ini Φ κ) {b ci index : Nat} {a1 a2 : Value}  (hd : decode cc pc = .ok (.invokevirtual index, 3)) (hq : pc + 3 = q) (hu : Cond.methodLink own index y ∈ UT) (hm : Mv y cc' nL' ret' 2) (hO : Ok y cc' nL' ret' d' mc' ms' [.ref b, a1, a2] S (RV S1)) (hdp : d' < d) (hrc : rc + mc' = rc0) (hrs : rs + ms' = rs0) (hb : mK S b = ci) (hc : ci < 9) (hcn : CN ci = y.cls) (hsm : (st.map fun v => v.category).sum ≤ 8) (k : mN S ≤ mN S1 → G κ rc rs S1 q ls st) : G κ rc0 rs0 S pc ls (a2 :: a1 :: .ref b :: st) := by
  subst hq; subst hrc; subst hrs
  exact g_callV (As := [a1, a2]) C hd hu hm.1 hm.2.1 hm.2.2 hO hdp rfl hb hc hcn hsm (fun r S' h hn => by obtain ⟨rfl, rfl⟩ := h; exact k hn)
theorem g_cS2v (C : Cx own cc nL ret d ini Φ κ) {index : Nat} {a1 a2 : Value}  (hd : decode cc pc = .ok (.invokestatic index, 3)) (hq : pc + 3 = q) (hu : Cond.methodLink own index y ∈ UT) (hm : Ms y cc' nL' ret' 2) (hO : Ok y cc' nL' ret' d' mc' ms' [a1, a2] S (RV S1)) (hdp : d' < d) (hrc : rc + mc' = rc0) (hrs : rs + ms' = rs0) (hsm : (st.map fun v => v.category).sum ≤ 8) (k : mN S ≤ mN S1 → G κ rc rs S1 q ls st) : G κ rc0 rs0 S pc ls (a2 :: a1 :: st) := by
  subst hq; subst hrc; subst hrs
  exact g_callS (As := [a1, a2]) C hd hu hm.1 hm.2 hO hdp rfl hsm (fun r S' h hn => by obtain ⟨rfl, rfl⟩ := h; exact k hn)
theorem g_cN2v (C : Cx own cc nL ret d ini Φ κ) {index : Nat} {host : String} {a1 a2 : Value}  (hd : decode cc pc = .ok (.invokestatic index, 3)) (hq : pc + 3 = q) (hu : (own, index, y, host) ∈ NW) (hm : Ms y cc' nL' ret' 2) (hO : Ok y cc' nL' ret' d' mc' ms' [a1, a2] S (RV S1)) (hdp : d' < d) (hrc : rc + mc' = rc0) (hrs : rs + ms' = rs0) (hsm : (st.map fun v => v.category).sum ≤ 8) (k : mN S ≤ mN S1 → G κ rc rs S1 q ls st) : G κ rc0 rs0 S pc ls (a2 :: a1 :: st) := by
  subst hq; subst hrc; subst hrs
  exact g_callSN (As := [a1, a2]) C hd hu hm.1 hm.2 hO hdp rfl hsm (fun r S' h hn => by obtain ⟨rfl, rfl⟩ := h; exact k hn)
theorem g_cI2 (C : Cx own cc nL ret d ini Φ κ) {b index : Nat} {a1 a2 : Value} (hd : decode cc pc = .ok (.invokespecial index, 3)) (hq : pc + 3 = q) (hu : Cond.methodLink own index y ∈ UT) (hm : Mc y cc' nL' 2) (hO : Ok y cc' nL' none d' mc' ms' [.ref b, a1, a2] S (RV S1)) (hdp : d' < d) (hrc : rc + mc' = rc0) (hrs : rs + ms' = rs0) (hsm : (st.map fun v => v.category).sum ≤ 8) (k : mN S ≤ mN S1 → G κ rc rs S1 q ls st) : G κ rc0 rs0 S pc ls (a2 :: a1 :: .ref b :: st) := by
  subst hq; subst hrc; subst hrs
  exact g_callI (As := [a1, a2]) C hd hu hm.1 hm.2.1 hm.2.2 hO hdp rfl hsm (fun r S' h hn => by obtain ⟨rfl, rfl⟩ := h; exact k hn)
theorem g_cJ2 (C : Cx own cc nL ret d ini Φ κ) {b index : Nat} {host : String} {a1 a2 : Value} (hd : decode cc pc = .ok (.invokespecial index, 3)) (hq : pc + 3 = q) (hu : (own, index, y, host) ∈ NW) (hm : Mc y cc' nL' 2) (hO : Ok y cc' nL' none d' mc' ms' [.ref b, a1, a2] S (RV S1)) (hdp : d' < d) (hrc : rc + mc' = rc0) (hrs : rs + ms' = rs0) (hsm : (st.map fun v => v.category).sum ≤ 8) (k : mN S ≤ mN S1 → G κ rc rs S1 q ls st) : G κ rc0 rs0 S pc ls (a2 :: a1 :: .ref b :: st) := by
  subst hq; subst hrc; subst hrs
  exact g_callIN (As := [a1, a2]) C hd hu hm.1 hm.2.1 hm.2.2 hO hdp rfl hsm (fun r S' h hn => by obtain ⟨rfl, rfl⟩ := h; exact k hn)
theorem g_cV2r (C : Cx own cc nL ret d ini Φ κ) {b index : Nat} {a1 a2 : Value} {x : Option Nat} (hd : decode cc pc = .ok (.invokevirtual index, 3)) (hq : pc + 3 = q) (hu : Cond.methodLink own index y ∈ UT) (hm : Mv y cc' nL' ret' 2) (hO : Ok y cc' nL' ret' d' mc' ms' [.ref b, a1, a2] S (RR x S1)) (hdp : d' < d) (hrc : rc + mc' = rc0) (hrs : rs + ms' = rs0) (hb : ck1 b 0 = true) (hcn : CN (K0 b) = y.cls) (hsm : (st.map fun v => v.category).sum ≤ 8) (k : mN S ≤ mN S1 → G κ rc rs S1 q ls (va_rf x :: st)) : G κ rc0 rs0 S pc ls (a2 :: a1 :: .ref b :: st) := by
  subst hq; subst hrc; subst hrs
  intro ad H locs lsA cells slots hw hl hs
  have hbn : b < mN S := hs (.ref b) (by simp)
  exact g_callV (As := [a1, a2]) C hd hu hm.1 hm.2.1 hm.2.2 hO hdp rfl (wk hw hbn (ck1_ok hb).1) (ck1_ok hb).2.1 hcn hsm (fun r S' h hn => by obtain ⟨rfl, rfl⟩ := h; exact k hn) ad H locs lsA cells slots hw hl hs
theorem g_cD2r (C : Cx own cc nL ret d ini Φ κ) {b ci index : Nat} {a1 a2 : Value} {x : Option Nat} (hd : decode cc pc = .ok (.invokevirtual index, 3)) (hq : pc + 3 = q) (hu : Cond.methodLink own index y ∈ UT) (hm : Mv y cc' nL' ret' 2) (hO : Ok y cc' nL' ret' d' mc' ms' [.ref b, a1, a2] S (RR x S1)) (hdp : d' < d) (hrc : rc + mc' = rc0) (hrs : rs + ms' = rs0) (hb : mK S b = ci) (hc : ci < 9) (hcn : CN ci = y.cls) (hsm : (st.map fun v => v.category).sum ≤ 8) (k : mN S ≤ mN S1 → G κ rc rs S1 q ls (va_rf x :: st)) : G κ rc0 rs0 S pc ls (a2 :: a1 :: .ref b :: st) := by
  subst hq; subst hrc; subst hrs
  exact g_callV (As := [a1, a2]) C hd hu hm.1 hm.2.1 hm.2.2 hO hdp rfl hb hc hcn hsm (fun r S' h hn => by obtain ⟨rfl, rfl⟩ := h; exact k hn)
theorem g_cV3i (C : Cx own cc nL ret d ini Φ κ) {b index : Nat} {a1 a2 a3 : Value} {v : Int32} (hd : decode cc pc = .ok (.invokevirtual index, 3)) (hq : pc + 3 = q) (hu : Cond.methodLink own index y ∈ UT) (hm : Mv y cc' nL' ret' 3) (hO : Ok y cc' nL' ret' d' mc' ms' [.ref b, a1, a2, a3] S (RI v S1)) (hdp : d' < d) (hrc : rc + mc' = rc0) (hrs : rs + ms' = rs0) (hb : ck1 b 0 = true) (hcn : CN (K0 b) = y.cls) (hsm : (st.map fun v => v.category).sum ≤ 8) (k : mN S ≤ mN S1 → G κ rc rs S1 q ls (.int v :: st)) : G κ rc0 rs0 S pc ls (a3 :: a2 :: a1 :: .ref b :: st) := by
  subst hq; subst hrc; subst hrs
  intro ad H locs lsA cells slots hw hl hs
  have hbn : b < mN S := hs (.ref b) (by simp)
  exact g_callV (As := [a1, a2, a3]) C hd hu hm.1 hm.2.1 hm.2.2 hO hdp rfl (wk hw hbn (ck1_ok hb).1) (ck1_ok hb).2.1 hcn hsm (fun r S' h hn => by obtain ⟨rfl, rfl⟩ := h; exact k hn) ad H locs lsA cells slots hw hl hs
theorem g_cD3i (C : Cx own cc nL ret d ini Φ κ) {b ci index : Nat} {a1 a2 a3 : Value} {v : Int32} (hd : decode cc pc = .ok (.invokevirtual index, 3)) (hq : pc + 3 = q) (hu : Cond.methodLink own index y ∈ UT) (hm : Mv y cc' nL' ret' 3) (hO : Ok y cc' nL' ret' d' mc' ms' [.ref b, a1, a2, a3] S (RI v S1)) (hdp : d' < d) (hrc : rc + mc' = rc0) (hrs : rs + ms' = rs0) (hb : mK S b = ci) (hc : ci < 9) (hcn : CN ci = y.cls) (hsm : (st.map fun v => v.category).sum ≤ 8) (k : mN S ≤ mN S1 → G κ rc rs S1 q ls (.int v :: st)) : G κ rc0 rs0 S pc ls (a3 :: a2 :: a1 :: .ref b :: st) := by
  subst hq; subst hrc; subst hrs
  exact g_callV (As := [a1, a2, a3]) C hd hu hm.1 hm.2.1 hm.2.2 hO hdp rfl hb hc hcn hsm (fun r S' h hn => by obtain ⟨rfl, rfl⟩ := h; exact k hn)
theorem g_cS3i (C : Cx own cc nL ret d ini Φ κ) {index : Nat} {a1 a2 a3 : Value} {v : Int32} (hd : decode cc pc = .ok (.invokestatic index, 3)) (hq : pc + 3 = q) (hu : Cond.methodLink own index y ∈ UT) (hm : Ms y cc' nL' ret' 3) (hO : Ok y cc' nL' ret' d' mc' ms' [a1, a2, a3] S (RI v S1)) (hdp : d' < d) (hrc : rc + mc' = rc0) (hrs : rs + ms' = rs0) (hsm : (st.map fun v => v.category).sum ≤ 8) (k : mN S ≤ mN S1 → G κ rc rs S1 q ls (.int v :: st)) : G κ rc0 rs0 S pc ls (a3 :: a2 :: a1 :: st) := by
  subst hq; subst hrc; subst hrs
  exact g_callS (As := [a1, a2, a3]) C hd hu hm.1 hm.2 hO hdp rfl hsm (fun r S' h hn => by obtain ⟨rfl, rfl⟩ := h; exact k hn)
theorem g_cN3i (C : Cx own cc nL ret d ini Φ κ) {index : Nat} {host : String} {a1 a2 a3 : Value} {v : Int32} (hd : decode cc pc = .ok (.invokestatic index, 3)) (hq : pc + 3 = q) (hu : (own, index, y, host) ∈ NW) (hm : Ms y cc' nL' ret' 3) (hO : Ok y cc' nL' ret' d' mc' ms' [a1, a2, a3] S (RI v S1)) (hdp : d' < d) (hrc : rc + mc' = rc0) (hrs : rs + ms' = rs0) (hsm : (st.map fun v => v.category).sum ≤ 8) (k : mN S ≤ mN S1 → G κ rc rs S1 q ls (.int v :: st)) : G κ rc0 rs0 S pc ls (a3 :: a2 :: a1 :: st) := by
  subst hq; subst hrc; subst hrs
  exact g_callSN (As := [a1, a2, a3]) C hd hu hm.1 hm.2 hO hdp rfl hsm (fun r S' h hn => by obtain ⟨rfl, rfl⟩ := h; exact k hn)
theorem g_cV3v (C : Cx own cc nL ret d ini Φ κ) {b index : Nat} {a1 a2 a3 : Value}  (hd : decode cc pc = .ok (.invokevirtual index, 3)) (hq : pc + 3 = q) (hu : Cond.methodLink own index y ∈ UT) (hm : Mv y cc' nL' ret' 3) (hO : Ok y cc' nL' ret' d' mc' ms' [.ref b, a1, a2, a3] S (RV S1)) (hdp : d' < d) (hrc : rc + mc' = rc0) (hrs : rs + ms' = rs0) (hb : ck1 b 0 = true) (hcn : CN (K0 b) = y.cls) (hsm : (st.map fun v => v.category).sum ≤ 8) (k : mN S ≤ mN S1 → G κ rc rs S1 q ls st) : G κ rc0 rs0 S pc ls (a3 :: a2 :: a1 :: .ref b :: st) := by
  subst hq; subst hrc; subst hrs
  intro ad H locs lsA cells slots hw hl hs
  have hbn : b < mN S := hs (.ref b) (by simp)
  exact g_callV (As := [a1, a2, a3]) C hd hu hm.1 hm.2.1 hm.2.2 hO hdp rfl (wk hw hbn (ck1_ok hb).1) (ck1_ok hb).2.1 hcn hsm (fun r S' h hn => by obtain ⟨rfl, rfl⟩ := h; exact k hn) ad H locs lsA cells slots hw hl hs
theorem g_cD3v (C : Cx own cc nL ret d ini Φ κ) {b ci index : Nat} {a1 a2 a3 : Value}  (hd : decode cc pc = .ok (.invokevirtual index, 3)) (hq : pc + 3 = q) (hu : Cond.methodLink own index y ∈ UT) (hm : Mv y cc' nL' ret' 3) (hO : Ok y cc' nL' ret' d' mc' ms' [.ref b, a1, a2, a3] S (RV S1)) (hdp : d' < d) (hrc : rc + mc' = rc0) (hrs : rs + ms' = rs0) (hb : mK S b = ci) (hc : ci < 9) (hcn : CN ci = y.cls) (hsm : (st.map fun v => v.category).sum ≤ 8) (k : mN S ≤ mN S1 → G κ rc rs S1 q ls st) : G κ rc0 rs0 S pc ls (a3 :: a2 :: a1 :: .ref b :: st) := by
  subst hq; subst hrc; subst hrs
  exact g_callV (As := [a1, a2, a3]) C hd hu hm.1 hm.2.1 hm.2.2 hO hdp rfl hb hc hcn hsm (fun r S' h hn => by obtain ⟨rfl, rfl⟩ := h; exact k hn)
theorem g_cS3v (C : Cx own cc nL ret d ini Φ κ) {index : Nat} {a1 a2 a3 : Value}  (hd : decode cc pc = .ok (.invokestatic index, 3)) (hq : pc + 3 = q) (hu : Cond.methodLink own index y ∈ UT) (hm : Ms y cc' nL' ret' 3) (hO : Ok y cc' nL' ret' d' mc' ms' [a1, a2, a3] S (RV S1)) (hdp : d' < d) (hrc : rc + mc' = rc0) (hrs : rs + ms' = rs0) (hsm : (st.map fun v => v.category).sum ≤ 8) (k : mN S ≤ mN S1 → G κ rc rs S1 q ls st) : G κ rc0 rs0 S pc ls (a3 :: a2 :: a1 :: st) := by
  subst hq; subst hrc; subst hrs
  exact g_callS (As := [a1, a2, a3]) C hd hu hm.1 hm.2 hO hdp rfl hsm (fun r S' h hn => by obtain ⟨rfl, rfl⟩ := h; exact k hn)
theorem g_cN3v (C : Cx own cc nL ret d ini Φ κ) {index : Nat} {host : String} {a1 a2 a3 : Value}  (hd : decode cc pc = .ok (.invokestatic index, 3)) (hq : pc + 3 = q) (hu : (own, index, y, host) ∈ NW) (hm : Ms y cc' nL' ret' 3) (hO : Ok y cc' nL' ret' d' mc' ms' [a1, a2, a3] S (RV S1)) (hdp : d' < d) (hrc : rc + mc' = rc0) (hrs : rs + ms' = rs0) (hsm : (st.map fun v => v.category).sum ≤ 8) (k : mN S ≤ mN S1 → G κ rc rs S1 q ls st) : G κ rc0 rs0 S pc ls (a3 :: a2 :: a1 :: st) := by
  subst hq; subst hrc; subst hrs
  exact g_callSN (As := [a1, a2, a3]) C hd hu hm.1 hm.2 hO hdp rfl hsm (fun r S' h hn => by obtain ⟨rfl, rfl⟩ := h; exact k hn)
theorem g_cI3 (C : Cx own cc nL ret d ini Φ κ) {b index : Nat} {a1 a2 a3 : Value} (hd : decode cc pc = .ok (.invokespecial index, 3)) (hq : pc + 3 = q) (hu : Cond.methodLink own index y ∈ UT) (hm : Mc y cc' nL' 3) (hO : Ok y cc' nL' none d' mc' ms' [.ref b, a1, a2, a3] S (RV S1)) (hdp : d' < d) (hrc : rc + mc' = rc0) (hrs : rs + ms' = rs0) (hsm : (st.map fun v => v.category).sum ≤ 8) (k : mN S ≤ mN S1 → G κ rc rs S1 q ls st) : G κ rc0 rs0 S pc ls (a3 :: a2 :: a1 :: .ref b :: st) := by
  subst hq; subst hrc; subst hrs
  exact g_callI (As := [a1, a2, a3]) C hd hu hm.1 hm.2.1 hm.2.2 hO hdp rfl hsm (fun r S' h hn => by obtain ⟨rfl, rfl⟩ := h; exact k hn)
theorem g_cJ3 (C : Cx own cc nL ret d ini Φ κ) {b index : Nat} {host : String} {a1 a2 a3 : Value} (hd : decode cc pc = .ok (.invokespecial index, 3)) (hq : pc + 3 = q) (hu : (own, index, y, host) ∈ NW) (hm : Mc y cc' nL' 3) (hO : Ok y cc' nL' none d' mc' ms' [.ref b, a1, a2, a3] S (RV S1)) (hdp : d' < d) (hrc : rc + mc' = rc0) (hrs : rs + ms' = rs0) (hsm : (st.map fun v => v.category).sum ≤ 8) (k : mN S ≤ mN S1 → G κ rc rs S1 q ls st) : G κ rc0 rs0 S pc ls (a3 :: a2 :: a1 :: .ref b :: st) := by
  subst hq; subst hrc; subst hrs
  exact g_callIN (As := [a1, a2, a3]) C hd hu hm.1 hm.2.1 hm.2.2 hO hdp rfl hsm (fun r S' h hn => by obtain ⟨rfl, rfl⟩ := h; exact k hn)
theorem g_cV3r (C : Cx own cc nL ret d ini Φ κ) {b index : Nat} {a1 a2 a3 : Value} {x : Option Nat} (hd : decode cc pc = .ok (.invokevirtual index, 3)) (hq : pc + 3 = q) (hu : Cond.methodLink own index y ∈ UT) (hm : Mv y cc' nL' ret' 3) (hO : Ok y cc' nL' ret' d' mc' ms' [.ref b, a1, a2, a3] S (RR x S1)) (hdp : d' < d) (hrc : rc + mc' = rc0) (hrs : rs + ms' = rs0) (hb : ck1 b 0 = true) (hcn : CN (K0 b) = y.cls) (hsm : (st.map fun v => v.category).sum ≤ 8) (k : mN S ≤ mN S1 → G κ rc rs S1 q ls (va_rf x :: st)) : G κ rc0 rs0 S pc ls (a3 :: a2 :: a1 :: .ref b :: st) := by
  subst hq; subst hrc; subst hrs
  intro ad H locs lsA cells slots hw hl hs
  have hbn : b < mN S := hs (.ref b) (by simp)
  exact g_callV (As := [a1, a2, a3]) C hd hu hm.1 hm.2.1 hm.2.2 hO hdp rfl (wk hw hbn (ck1_ok hb).1) (ck1_ok hb).2.1 hcn hsm (fun r S' h hn => by obtain ⟨rfl, rfl⟩ := h; exact k hn) ad H locs lsA cells slots hw hl hs
theorem g_cD3r (C : Cx own cc nL ret d ini Φ κ) {b ci index : Nat} {a1 a2 a3 : Value} {x : Option Nat} (hd : decode cc pc = .ok (.invokevirtual index, 3)) (hq : pc + 3 = q) (hu : Cond.methodLink own index y ∈ UT) (hm : Mv y cc' nL' ret' 3) (hO : Ok y cc' nL' ret' d' mc' ms' [.ref b, a1, a2, a3] S (RR x S1)) (hdp : d' < d) (hrc : rc + mc' = rc0) (hrs : rs + ms' = rs0) (hb : mK S b = ci) (hc : ci < 9) (hcn : CN ci = y.cls) (hsm : (st.map fun v => v.category).sum ≤ 8) (k : mN S ≤ mN S1 → G κ rc rs S1 q ls (va_rf x :: st)) : G κ rc0 rs0 S pc ls (a3 :: a2 :: a1 :: .ref b :: st) := by
  subst hq; subst hrc; subst hrs
  exact g_callV (As := [a1, a2, a3]) C hd hu hm.1 hm.2.1 hm.2.2 hO hdp rfl hb hc hcn hsm (fun r S' h hn => by obtain ⟨rfl, rfl⟩ := h; exact k hn)
theorem g_cV4i (C : Cx own cc nL ret d ini Φ κ) {b index : Nat} {a1 a2 a3 a4 : Value} {v : Int32} (hd : decode cc pc = .ok (.invokevirtual index, 3)) (hq : pc + 3 = q) (hu : Cond.methodLink own index y ∈ UT) (hm : Mv y cc' nL' ret' 4) (hO : Ok y cc' nL' ret' d' mc' ms' [.ref b, a1, a2, a3, a4] S (RI v S1)) (hdp : d' < d) (hrc : rc + mc' = rc0) (hrs : rs + ms' = rs0) (hb : ck1 b 0 = true) (hcn : CN (K0 b) = y.cls) (hsm : (st.map fun v => v.category).sum ≤ 8) (k : mN S ≤ mN S1 → G κ rc rs S1 q ls (.int v :: st)) : G κ rc0 rs0 S pc ls (a4 :: a3 :: a2 :: a1 :: .ref b :: st) := by
  subst hq; subst hrc; subst hrs
  intro ad H locs lsA cells slots hw hl hs
  have hbn : b < mN S := hs (.ref b) (by simp)
  exact g_callV (As := [a1, a2, a3, a4]) C hd hu hm.1 hm.2.1 hm.2.2 hO hdp rfl (wk hw hbn (ck1_ok hb).1) (ck1_ok hb).2.1 hcn hsm (fun r S' h hn => by obtain ⟨rfl, rfl⟩ := h; exact k hn) ad H locs lsA cells slots hw hl hs
theorem g_cD4i (C : Cx own cc nL ret d ini Φ κ) {b ci index : Nat} {a1 a2 a3 a4 : Value} {v : Int32} (hd : decode cc pc = .ok (.invokevirtual index, 3)) (hq : pc + 3 = q) (hu : Cond.methodLink own index y ∈ UT) (hm : Mv y cc' nL' ret' 4) (hO : Ok y cc' nL' ret' d' mc' ms' [.ref b, a1, a2, a3, a4] S (RI v S1)) (hdp : d' < d) (hrc : rc + mc' = rc0) (hrs : rs + ms' = rs0) (hb : mK S b = ci) (hc : ci < 9) (hcn : CN ci = y.cls) (hsm : (st.map fun v => v.category).sum ≤ 8) (k : mN S ≤ mN S1 → G κ rc rs S1 q ls (.int v :: st)) : G κ rc0 rs0 S pc ls (a4 :: a3 :: a2 :: a1 :: .ref b :: st) := by
  subst hq; subst hrc; subst hrs
  exact g_callV (As := [a1, a2, a3, a4]) C hd hu hm.1 hm.2.1 hm.2.2 hO hdp rfl hb hc hcn hsm (fun r S' h hn => by obtain ⟨rfl, rfl⟩ := h; exact k hn)
theorem g_cV4v (C : Cx own cc nL ret d ini Φ κ) {b index : Nat} {a1 a2 a3 a4 : Value}  (hd : decode cc pc = .ok (.invokevirtual index, 3)) (hq : pc + 3 = q) (hu : Cond.methodLink own index y ∈ UT) (hm : Mv y cc' nL' ret' 4) (hO : Ok y cc' nL' ret' d' mc' ms' [.ref b, a1, a2, a3, a4] S (RV S1)) (hdp : d' < d) (hrc : rc + mc' = rc0) (hrs : rs + ms' = rs0) (hb : ck1 b 0 = true) (hcn : CN (K0 b) = y.cls) (hsm : (st.map fun v => v.category).sum ≤ 8) (k : mN S ≤ mN S1 → G κ rc rs S1 q ls st) : G κ rc0 rs0 S pc ls (a4 :: a3 :: a2 :: a1 :: .ref b :: st) := by
  subst hq; subst hrc; subst hrs
  intro ad H locs lsA cells slots hw hl hs
  have hbn : b < mN S := hs (.ref b) (by simp)
  exact g_callV (As := [a1, a2, a3, a4]) C hd hu hm.1 hm.2.1 hm.2.2 hO hdp rfl (wk hw hbn (ck1_ok hb).1) (ck1_ok hb).2.1 hcn hsm (fun r S' h hn => by obtain ⟨rfl, rfl⟩ := h; exact k hn) ad H locs lsA cells slots hw hl hs
theorem g_cD4v (C : Cx own cc nL ret d ini Φ κ) {b ci index : Nat} {a1 a2 a3 a4 : Value}  (hd : decode cc pc = .ok (.invokevirtual index, 3)) (hq : pc + 3 = q) (hu : Cond.methodLink own index y ∈ UT) (hm : Mv y cc' nL' ret' 4) (hO : Ok y cc' nL' ret' d' mc' ms' [.ref b, a1, a2, a3, a4] S (RV S1)) (hdp : d' < d) (hrc : rc + mc' = rc0) (hrs : rs + ms' = rs0) (hb : mK S b = ci) (hc : ci < 9) (hcn : CN ci = y.cls) (hsm : (st.map fun v => v.category).sum ≤ 8) (k : mN S ≤ mN S1 → G κ rc rs S1 q ls st) : G κ rc0 rs0 S pc ls (a4 :: a3 :: a2 :: a1 :: .ref b :: st) := by
  subst hq; subst hrc; subst hrs
  exact g_callV (As := [a1, a2, a3, a4]) C hd hu hm.1 hm.2.1 hm.2.2 hO hdp rfl hb hc hcn hsm (fun r S' h hn => by obtain ⟨rfl, rfl⟩ := h; exact k hn)
theorem g_cI4 (C : Cx own cc nL ret d ini Φ κ) {b index : Nat} {a1 a2 a3 a4 : Value} (hd : decode cc pc = .ok (.invokespecial index, 3)) (hq : pc + 3 = q) (hu : Cond.methodLink own index y ∈ UT) (hm : Mc y cc' nL' 4) (hO : Ok y cc' nL' none d' mc' ms' [.ref b, a1, a2, a3, a4] S (RV S1)) (hdp : d' < d) (hrc : rc + mc' = rc0) (hrs : rs + ms' = rs0) (hsm : (st.map fun v => v.category).sum ≤ 8) (k : mN S ≤ mN S1 → G κ rc rs S1 q ls st) : G κ rc0 rs0 S pc ls (a4 :: a3 :: a2 :: a1 :: .ref b :: st) := by
  subst hq; subst hrc; subst hrs
  exact g_callI (As := [a1, a2, a3, a4]) C hd hu hm.1 hm.2.1 hm.2.2 hO hdp rfl hsm (fun r S' h hn => by obtain ⟨rfl, rfl⟩ := h; exact k hn)
theorem g_cJ4 (C : Cx own cc nL ret d ini Φ κ) {b index : Nat} {host : String} {a1 a2 a3 a4 : Value} (hd : decode cc pc = .ok (.invokespecial index, 3)) (hq : pc + 3 = q) (hu : (own, index, y, host) ∈ NW) (hm : Mc y cc' nL' 4) (hO : Ok y cc' nL' none d' mc' ms' [.ref b, a1, a2, a3, a4] S (RV S1)) (hdp : d' < d) (hrc : rc + mc' = rc0) (hrs : rs + ms' = rs0) (hsm : (st.map fun v => v.category).sum ≤ 8) (k : mN S ≤ mN S1 → G κ rc rs S1 q ls st) : G κ rc0 rs0 S pc ls (a4 :: a3 :: a2 :: a1 :: .ref b :: st) := by
  subst hq; subst hrc; subst hrs
  exact g_callIN (As := [a1, a2, a3, a4]) C hd hu hm.1 hm.2.1 hm.2.2 hO hdp rfl hsm (fun r S' h hn => by obtain ⟨rfl, rfl⟩ := h; exact k hn)
theorem g_cV4r (C : Cx own cc nL ret d ini Φ κ) {b index : Nat} {a1 a2 a3 a4 : Value} {x : Option Nat} (hd : decode cc pc = .ok (.invokevirtual index, 3)) (hq : pc + 3 = q) (hu : Cond.methodLink own index y ∈ UT) (hm : Mv y cc' nL' ret' 4) (hO : Ok y cc' nL' ret' d' mc' ms' [.ref b, a1, a2, a3, a4] S (RR x S1)) (hdp : d' < d) (hrc : rc + mc' = rc0) (hrs : rs + ms' = rs0) (hb : ck1 b 0 = true) (hcn : CN (K0 b) = y.cls) (hsm : (st.map fun v => v.category).sum ≤ 8) (k : mN S ≤ mN S1 → G κ rc rs S1 q ls (va_rf x :: st)) : G κ rc0 rs0 S pc ls (a4 :: a3 :: a2 :: a1 :: .ref b :: st) := by
  subst hq; subst hrc; subst hrs
  intro ad H locs lsA cells slots hw hl hs
  have hbn : b < mN S := hs (.ref b) (by simp)
  exact g_callV (As := [a1, a2, a3, a4]) C hd hu hm.1 hm.2.1 hm.2.2 hO hdp rfl (wk hw hbn (ck1_ok hb).1) (ck1_ok hb).2.1 hcn hsm (fun r S' h hn => by obtain ⟨rfl, rfl⟩ := h; exact k hn) ad H locs lsA cells slots hw hl hs
theorem g_cD4r (C : Cx own cc nL ret d ini Φ κ) {b ci index : Nat} {a1 a2 a3 a4 : Value} {x : Option Nat} (hd : decode cc pc = .ok (.invokevirtual index, 3)) (hq : pc + 3 = q) (hu : Cond.methodLink own index y ∈ UT) (hm : Mv y cc' nL' ret' 4) (hO : Ok y cc' nL' ret' d' mc' ms' [.ref b, a1, a2, a3, a4] S (RR x S1)) (hdp : d' < d) (hrc : rc + mc' = rc0) (hrs : rs + ms' = rs0) (hb : mK S b = ci) (hc : ci < 9) (hcn : CN ci = y.cls) (hsm : (st.map fun v => v.category).sum ≤ 8) (k : mN S ≤ mN S1 → G κ rc rs S1 q ls (va_rf x :: st)) : G κ rc0 rs0 S pc ls (a4 :: a3 :: a2 :: a1 :: .ref b :: st) := by
  subst hq; subst hrc; subst hrs
  exact g_callV (As := [a1, a2, a3, a4]) C hd hu hm.1 hm.2.1 hm.2.2 hO hdp rfl hb hc hcn hsm (fun r S' h hn => by obtain ⟨rfl, rfl⟩ := h; exact k hn)
theorem g_cS5i (C : Cx own cc nL ret d ini Φ κ) {index : Nat} {a1 a2 a3 a4 a5 : Value} {v : Int32} (hd : decode cc pc = .ok (.invokestatic index, 3)) (hq : pc + 3 = q) (hu : Cond.methodLink own index y ∈ UT) (hm : Ms y cc' nL' ret' 5) (hO : Ok y cc' nL' ret' d' mc' ms' [a1, a2, a3, a4, a5] S (RI v S1)) (hdp : d' < d) (hrc : rc + mc' = rc0) (hrs : rs + ms' = rs0) (hsm : (st.map fun v => v.category).sum ≤ 8) (k : mN S ≤ mN S1 → G κ rc rs S1 q ls (.int v :: st)) : G κ rc0 rs0 S pc ls (a5 :: a4 :: a3 :: a2 :: a1 :: st) := by
  subst hq; subst hrc; subst hrs
  exact g_callS (As := [a1, a2, a3, a4, a5]) C hd hu hm.1 hm.2 hO hdp rfl hsm (fun r S' h hn => by obtain ⟨rfl, rfl⟩ := h; exact k hn)
theorem g_cN5i (C : Cx own cc nL ret d ini Φ κ) {index : Nat} {host : String} {a1 a2 a3 a4 a5 : Value} {v : Int32} (hd : decode cc pc = .ok (.invokestatic index, 3)) (hq : pc + 3 = q) (hu : (own, index, y, host) ∈ NW) (hm : Ms y cc' nL' ret' 5) (hO : Ok y cc' nL' ret' d' mc' ms' [a1, a2, a3, a4, a5] S (RI v S1)) (hdp : d' < d) (hrc : rc + mc' = rc0) (hrs : rs + ms' = rs0) (hsm : (st.map fun v => v.category).sum ≤ 8) (k : mN S ≤ mN S1 → G κ rc rs S1 q ls (.int v :: st)) : G κ rc0 rs0 S pc ls (a5 :: a4 :: a3 :: a2 :: a1 :: st) := by
  subst hq; subst hrc; subst hrs
  exact g_callSN (As := [a1, a2, a3, a4, a5]) C hd hu hm.1 hm.2 hO hdp rfl hsm (fun r S' h hn => by obtain ⟨rfl, rfl⟩ := h; exact k hn)
end CALLN
theorem mz_X0_init : Mc yX0_init cX0_init 1 0 := ⟨⟨⟨co_yX0_init, in_X0⟩, by decide +kernel, by decide⟩, im_yX0_init, rfl⟩
theorem mz_X0_size : Mv yX0_size cX0_size 1 (some .int) 0 := ⟨⟨⟨co_yX0_size, in_X0⟩, by decide +kernel, by decide⟩, im_yX0_size, se_yX0_size⟩
theorem mz_X0_clear : Mv yX0_clear cX0_clear 1 none 0 := ⟨⟨⟨co_yX0_clear, in_X0⟩, by decide +kernel, by decide⟩, im_yX0_clear, se_yX0_clear⟩
theorem mz_X0_add : Mv yX0_add cX0_add 3 (some .boolean) 2 := ⟨⟨⟨co_yX0_add, in_X0⟩, by decide +kernel, by decide⟩, im_yX0_add, se_yX0_add⟩
theorem mz_X7_has : Ms yX7_has cX7_has 2 (some .boolean) 2 := ⟨⟨⟨co_yX7_has, in_X7⟩, by decide +kernel, by decide⟩, sm_yX7_has⟩
theorem mz_X0_firstWrong : Mv yX0_firstWrong cX0_firstWrong 3 (some .int) 1 := ⟨⟨⟨co_yX0_firstWrong, in_X0⟩, by decide +kernel, by decide⟩, im_yX0_firstWrong, se_yX0_firstWrong⟩
theorem mz_X1_init : Mc yX1_init cX1_init 1 0 := ⟨⟨⟨co_yX1_init, in_X1⟩, by decide +kernel, by decide⟩, im_yX1_init, rfl⟩
theorem mz_X1_size : Mv yX1_size cX1_size 1 (some .int) 0 := ⟨⟨⟨co_yX1_size, in_X1⟩, by decide +kernel, by decide⟩, im_yX1_size, se_yX1_size⟩
theorem mz_X1_clear : Mv yX1_clear cX1_clear 1 none 0 := ⟨⟨⟨co_yX1_clear, in_X1⟩, by decide +kernel, by decide⟩, im_yX1_clear, se_yX1_clear⟩
theorem mz_X1_loseOldest : Mv yX1_loseOldest cX1_loseOldest 2 none 0 := ⟨⟨⟨co_yX1_loseOldest, in_X1⟩, by decide +kernel, by decide⟩, im_yX1_loseOldest, se_yX1_loseOldest⟩
theorem mz_X1_add : Mv yX1_add cX1_add 2 none 1 := ⟨⟨⟨co_yX1_add, in_X1⟩, by decide +kernel, by decide⟩, im_yX1_add, se_yX1_add⟩
theorem mz_X1_takeLatest : Mv yX1_takeLatest cX1_takeLatest 1 (some (.object "BarrelMoon$Moment")) 0 := ⟨⟨⟨co_yX1_takeLatest, in_X1⟩, by decide +kernel, by decide⟩, im_yX1_takeLatest, se_yX1_takeLatest⟩
theorem mz_X2_init : Mc yX2_init cX2_init 5 4 := ⟨⟨⟨co_yX2_init, in_X2⟩, by decide +kernel, by decide⟩, im_yX2_init, rfl⟩
theorem mz_X3_init : Mc yX3_init cX3_init 1 0 := ⟨⟨⟨co_yX3_init, in_X3⟩, by decide +kernel, by decide⟩, im_yX3_init, rfl⟩
theorem mz_X3_size : Mv yX3_size cX3_size 1 (some .int) 0 := ⟨⟨⟨co_yX3_size, in_X3⟩, by decide +kernel, by decide⟩, im_yX3_size, se_yX3_size⟩
theorem mz_X3_clear : Mv yX3_clear cX3_clear 1 none 0 := ⟨⟨⟨co_yX3_clear, in_X3⟩, by decide +kernel, by decide⟩, im_yX3_clear, se_yX3_clear⟩
theorem mz_X3_add : Mv yX3_add cX3_add 4 (some .boolean) 3 := ⟨⟨⟨co_yX3_add, in_X3⟩, by decide +kernel, by decide⟩, im_yX3_add, se_yX3_add⟩
theorem mz_X4_allRules : Mv yX4_allRules cX4_allRules 1 (some .int) 0 := ⟨⟨⟨co_yX4_allRules, in_X4⟩, by decide +kernel, by decide⟩, im_yX4_allRules, se_yX4_allRules⟩
theorem mz_X4_closure : Mv yX4_closure cX4_closure 8 (some .int) 2 := ⟨⟨⟨co_yX4_closure, in_X4⟩, by decide +kernel, by decide⟩, im_yX4_closure, se_yX4_closure⟩
theorem mz_X3_fit : Mv yX3_fit cX3_fit 4 (some .boolean) 2 := ⟨⟨⟨co_yX3_fit, in_X3⟩, by decide +kernel, by decide⟩, im_yX3_fit, se_yX3_fit⟩
theorem mz_X4_init : Mc yX4_init cX4_init 1 0 := ⟨⟨⟨co_yX4_init, in_X4⟩, by decide +kernel, by decide⟩, im_yX4_init, rfl⟩
theorem mz_X4_clear : Mv yX4_clear cX4_clear 1 none 0 := ⟨⟨⟨co_yX4_clear, in_X4⟩, by decide +kernel, by decide⟩, im_yX4_clear, se_yX4_clear⟩
theorem mz_X4_isNone : Mv yX4_isNone cX4_isNone 1 (some .boolean) 0 := ⟨⟨⟨co_yX4_isNone, in_X4⟩, by decide +kernel, by decide⟩, im_yX4_isNone, se_yX4_isNone⟩
theorem mz_X4_isFull : Mv yX4_isFull cX4_isFull 1 (some .boolean) 0 := ⟨⟨⟨co_yX4_isFull, in_X4⟩, by decide +kernel, by decide⟩, im_yX4_isFull, se_yX4_isFull⟩
theorem mz_X4_addRule : Mv yX4_addRule cX4_addRule 4 none 3 := ⟨⟨⟨co_yX4_addRule, in_X4⟩, by decide +kernel, by decide⟩, im_yX4_addRule, se_yX4_addRule⟩
theorem mz_X4_sayings : Mv yX4_sayings cX4_sayings 1 (some .int) 0 := ⟨⟨⟨co_yX4_sayings, in_X4⟩, by decide +kernel, by decide⟩, im_yX4_sayings, se_yX4_sayings⟩
theorem mz_X4_allSayings : Mv yX4_allSayings cX4_allSayings 1 (some .int) 0 := ⟨⟨⟨co_yX4_allSayings, in_X4⟩, by decide +kernel, by decide⟩, im_yX4_allSayings, se_yX4_allSayings⟩
theorem mz_X4_hasSaying : Mv yX4_hasSaying cX4_hasSaying 2 (some .boolean) 1 := ⟨⟨⟨co_yX4_hasSaying, in_X4⟩, by decide +kernel, by decide⟩, im_yX4_hasSaying, se_yX4_hasSaying⟩
theorem mz_X4_hasSayings : Mv yX4_hasSayings cX4_hasSayings 2 (some .boolean) 1 := ⟨⟨⟨co_yX4_hasSayings, in_X4⟩, by decide +kernel, by decide⟩, im_yX4_hasSayings, se_yX4_hasSayings⟩
theorem mz_X4_hasRule : Mv yX4_hasRule cX4_hasRule 2 (some .boolean) 1 := ⟨⟨⟨co_yX4_hasRule, in_X4⟩, by decide +kernel, by decide⟩, im_yX4_hasRule, se_yX4_hasRule⟩
theorem mz_X4_quarrelsIn : Mv yX4_quarrelsIn cX4_quarrelsIn 4 (some .int) 1 := ⟨⟨⟨co_yX4_quarrelsIn, in_X4⟩, by decide +kernel, by decide⟩, im_yX4_quarrelsIn, se_yX4_quarrelsIn⟩
theorem mz_X4_costOf : Mv yX4_costOf cX4_costOf 4 (some .int) 1 := ⟨⟨⟨co_yX4_costOf, in_X4⟩, by decide +kernel, by decide⟩, im_yX4_costOf, se_yX4_costOf⟩
theorem mz_X4_concludedBy : Mv yX4_concludedBy cX4_concludedBy 4 (some .int) 1 := ⟨⟨⟨co_yX4_concludedBy, in_X4⟩, by decide +kernel, by decide⟩, im_yX4_concludedBy, se_yX4_concludedBy⟩
theorem mz_X5_init : Mc yX5_init cX5_init 1 0 := ⟨⟨⟨co_yX5_init, in_X5⟩, by decide +kernel, by decide⟩, im_yX5_init, rfl⟩
theorem mz_X5_append : Mv yX5_append cX5_append 2 (some .boolean) 1 := ⟨⟨⟨co_yX5_append, in_X5⟩, by decide +kernel, by decide⟩, im_yX5_append, se_yX5_append⟩
theorem mz_X5_length : Mv yX5_length cX5_length 1 (some .int) 0 := ⟨⟨⟨co_yX5_length, in_X5⟩, by decide +kernel, by decide⟩, im_yX5_length, se_yX5_length⟩
theorem mz_X5_forgetText : Mv yX5_forgetText cX5_forgetText 1 none 0 := ⟨⟨⟨co_yX5_forgetText, in_X5⟩, by decide +kernel, by decide⟩, im_yX5_forgetText, se_yX5_forgetText⟩
theorem mz_X5_faultKind : Mv yX5_faultKind cX5_faultKind 1 (some .int) 0 := ⟨⟨⟨co_yX5_faultKind, in_X5⟩, by decide +kernel, by decide⟩, im_yX5_faultKind, se_yX5_faultKind⟩
theorem mz_X5_faultAt : Mv yX5_faultAt cX5_faultAt 1 (some .int) 0 := ⟨⟨⟨co_yX5_faultAt, in_X5⟩, by decide +kernel, by decide⟩, im_yX5_faultAt, se_yX5_faultAt⟩
theorem mz_X5_peek : Mv yX5_peek cX5_peek 1 (some .int) 0 := ⟨⟨⟨co_yX5_peek, in_X5⟩, by decide +kernel, by decide⟩, im_yX5_peek, se_yX5_peek⟩
theorem mz_X5_stop : Mv yX5_stop cX5_stop 3 none 2 := ⟨⟨⟨co_yX5_stop, in_X5⟩, by decide +kernel, by decide⟩, im_yX5_stop, se_yX5_stop⟩
theorem mz_X5_take : Mv yX5_take cX5_take 2 (some .boolean) 1 := ⟨⟨⟨co_yX5_take, in_X5⟩, by decide +kernel, by decide⟩, im_yX5_take, se_yX5_take⟩
theorem mz_X5_isFigure : Ms yX5_isFigure cX5_isFigure 1 (some .boolean) 1 := ⟨⟨⟨co_yX5_isFigure, in_X5⟩, by decide +kernel, by decide⟩, sm_yX5_isFigure⟩
theorem mz_X5_number : Mv yX5_number cX5_number 4 (some .int) 2 := ⟨⟨⟨co_yX5_number, in_X5⟩, by decide +kernel, by decide⟩, im_yX5_number, se_yX5_number⟩
theorem mz_X5_readThings : Mv yX5_readThings cX5_readThings 3 none 1 := ⟨⟨⟨co_yX5_readThings, in_X5⟩, by decide +kernel, by decide⟩, im_yX5_readThings, se_yX5_readThings⟩
theorem mz_X5_readPremises : Mv yX5_readPremises cX5_readPremises 6 (some .int) 2 := ⟨⟨⟨co_yX5_readPremises, in_X5⟩, by decide +kernel, by decide⟩, im_yX5_readPremises, se_yX5_readPremises⟩
theorem mz_X5_readRule : Mv yX5_readRule cX5_readRule 5 none 1 := ⟨⟨⟨co_yX5_readRule, in_X5⟩, by decide +kernel, by decide⟩, im_yX5_readRule, se_yX5_readRule⟩
theorem mz_X5_readSeen : Mv yX5_readSeen cX5_readSeen 3 none 1 := ⟨⟨⟨co_yX5_readSeen, in_X5⟩, by decide +kernel, by decide⟩, im_yX5_readSeen, se_yX5_readSeen⟩
theorem mz_X5_readClause : Mv yX5_readClause cX5_readClause 3 none 1 := ⟨⟨⟨co_yX5_readClause, in_X5⟩, by decide +kernel, by decide⟩, im_yX5_readClause, se_yX5_readClause⟩
theorem mz_X5_readInto : Mv yX5_readInto cX5_readInto 3 none 1 := ⟨⟨⟨co_yX5_readInto, in_X5⟩, by decide +kernel, by decide⟩, im_yX5_readInto, se_yX5_readInto⟩
theorem mz_X6_init : Mc yX6_init cX6_init 4 3 := ⟨⟨⟨co_yX6_init, in_X6⟩, by decide +kernel, by decide⟩, im_yX6_init, rfl⟩
theorem mz_X6_conclusions : Mv yX6_conclusions cX6_conclusions 1 (some .int) 0 := ⟨⟨⟨co_yX6_conclusions, in_X6⟩, by decide +kernel, by decide⟩, im_yX6_conclusions, se_yX6_conclusions⟩
theorem mz_X6_concludesBy : Mv yX6_concludesBy cX6_concludesBy 3 (some .boolean) 2 := ⟨⟨⟨co_yX6_concludesBy, in_X6⟩, by decide +kernel, by decide⟩, im_yX6_concludesBy, se_yX6_concludesBy⟩
theorem mz_J6_bitCount_0f7a4 : Ms yJ6_bitCount_0f7a4 cJ6_bitCount_0f7a4 1 (some .int) 1 := ⟨⟨⟨co_yJ6_bitCount_0f7a4, in_J6⟩, by decide +kernel, by decide⟩, sm_yJ6_bitCount_0f7a4⟩
theorem mz_X6_isAllowed : Mv yX6_isAllowed cX6_isAllowed 2 (some .boolean) 1 := ⟨⟨⟨co_yX6_isAllowed, in_X6⟩, by decide +kernel, by decide⟩, im_yX6_isAllowed, se_yX6_isAllowed⟩
theorem mz_X6_leastProof : Mv yX6_leastProof cX6_leastProof 6 (some .int) 1 := ⟨⟨⟨co_yX6_leastProof, in_X6⟩, by decide +kernel, by decide⟩, im_yX6_leastProof, se_yX6_leastProof⟩
theorem mz_X6_isPeaceWithout : Mv yX6_isPeaceWithout cX6_isPeaceWithout 2 (some .boolean) 1 := ⟨⟨⟨co_yX6_isPeaceWithout, in_X6⟩, by decide +kernel, by decide⟩, im_yX6_isPeaceWithout, se_yX6_isPeaceWithout⟩
theorem mz_X6_cheapestPeace : Mv yX6_cheapestPeace cX6_cheapestPeace 4 (some .int) 0 := ⟨⟨⟨co_yX6_cheapestPeace, in_X6⟩, by decide +kernel, by decide⟩, im_yX6_cheapestPeace, se_yX6_cheapestPeace⟩
theorem mz_X6_bringTo : Mv yX6_bringTo cX6_bringTo 4 (some .boolean) 2 := ⟨⟨⟨co_yX6_bringTo, in_X6⟩, by decide +kernel, by decide⟩, im_yX6_bringTo, se_yX6_bringTo⟩
theorem mz_X7_denialOf : Ms yX7_denialOf cX7_denialOf 1 (some .int) 1 := ⟨⟨⟨co_yX7_denialOf, in_X7⟩, by decide +kernel, by decide⟩, sm_yX7_denialOf⟩
theorem mz_X6_leastWords : Ms yX6_leastWords cX6_leastWords 7 (some .int) 5 := ⟨⟨⟨co_yX6_leastWords, in_X6⟩, by decide +kernel, by decide⟩, sm_yX6_leastWords⟩
theorem mz_X6_fewestWords : Mv yX6_fewestWords cX6_fewestWords 4 (some .int) 1 := ⟨⟨⟨co_yX6_fewestWords, in_X6⟩, by decide +kernel, by decide⟩, im_yX6_fewestWords, se_yX6_fewestWords⟩
theorem mz_X7_put : Ms yX7_put cX7_put 3 (some .int) 3 := ⟨⟨⟨co_yX7_put, in_X7⟩, by decide +kernel, by decide⟩, sm_yX7_put⟩
theorem mz_X6_neededRules : Mv yX6_neededRules cX6_neededRules 4 (some .int) 1 := ⟨⟨⟨co_yX6_neededRules, in_X6⟩, by decide +kernel, by decide⟩, im_yX6_neededRules, se_yX6_neededRules⟩
theorem mz_X6_fewestBars : Mv yX6_fewestBars cX6_fewestBars 6 (some .int) 1 := ⟨⟨⟨co_yX6_fewestBars, in_X6⟩, by decide +kernel, by decide⟩, im_yX6_fewestBars, se_yX6_fewestBars⟩
theorem mz_X6_returnsTo : Mv yX6_returnsTo cX6_returnsTo 4 (some .boolean) 1 := ⟨⟨⟨co_yX6_returnsTo, in_X6⟩, by decide +kernel, by decide⟩, im_yX6_returnsTo, se_yX6_returnsTo⟩
theorem mz_X6_circles : Mv yX6_circles cX6_circles 3 (some .int) 0 := ⟨⟨⟨co_yX6_circles, in_X6⟩, by decide +kernel, by decide⟩, im_yX6_circles, se_yX6_circles⟩
theorem mz_X7_init : Mc yX7_init cX7_init 1 0 := ⟨⟨⟨co_yX7_init, in_X7⟩, by decide +kernel, by decide⟩, im_yX7_init, rfl⟩
theorem mz_X7_feed : Mv yX7_feed cX7_feed 2 (some .int) 1 := ⟨⟨⟨co_yX7_feed, in_X7⟩, by decide +kernel, by decide⟩, im_yX7_feed, se_yX7_feed⟩
theorem mz_X7_beginAnew : Mv yX7_beginAnew cX7_beginAnew 2 none 0 := ⟨⟨⟨co_yX7_beginAnew, in_X7⟩, by decide +kernel, by decide⟩, im_yX7_beginAnew, se_yX7_beginAnew⟩
theorem mz_X7_town : Mv yX7_town cX7_town 2 (some .int) 0 := ⟨⟨⟨co_yX7_town, in_X7⟩, by decide +kernel, by decide⟩, im_yX7_town, se_yX7_town⟩
theorem mz_X7_fault : Mv yX7_fault cX7_fault 1 (some .int) 0 := ⟨⟨⟨co_yX7_fault, in_X7⟩, by decide +kernel, by decide⟩, im_yX7_fault, se_yX7_fault⟩
theorem mz_X7_rulesGoneBy : Mv yX7_rulesGoneBy cX7_rulesGoneBy 1 (some .int) 0 := ⟨⟨⟨co_yX7_rulesGoneBy, in_X7⟩, by decide +kernel, by decide⟩, im_yX7_rulesGoneBy, se_yX7_rulesGoneBy⟩
theorem mz_X7_trialNow : Mv yX7_trialNow cX7_trialNow 1 (some (.object "BarrelMoon$Trial")) 0 := ⟨⟨⟨co_yX7_trialNow, in_X7⟩, by decide +kernel, by decide⟩, im_yX7_trialNow, se_yX7_trialNow⟩
theorem mz_X7_told : Mv yX7_told cX7_told 2 (some .int) 1 := ⟨⟨⟨co_yX7_told, in_X7⟩, by decide +kernel, by decide⟩, im_yX7_told, se_yX7_told⟩
theorem mz_X7_rule : Mv yX7_rule cX7_rule 3 (some .int) 2 := ⟨⟨⟨co_yX7_rule, in_X7⟩, by decide +kernel, by decide⟩, im_yX7_rule, se_yX7_rule⟩
theorem mz_X7_change : Mv yX7_change cX7_change 2 none 1 := ⟨⟨⟨co_yX7_change, in_X7⟩, by decide +kernel, by decide⟩, im_yX7_change, se_yX7_change⟩
theorem mz_X7_see : Mv yX7_see cX7_see 4 (some .int) 2 := ⟨⟨⟨co_yX7_see, in_X7⟩, by decide +kernel, by decide⟩, im_yX7_see, se_yX7_see⟩
theorem mz_X7_forbid : Mv yX7_forbid cX7_forbid 4 (some .int) 2 := ⟨⟨⟨co_yX7_forbid, in_X7⟩, by decide +kernel, by decide⟩, im_yX7_forbid, se_yX7_forbid⟩
theorem mz_X7_debate : Mv yX7_debate cX7_debate 2 (some .int) 0 := ⟨⟨⟨co_yX7_debate, in_X7⟩, by decide +kernel, by decide⟩, im_yX7_debate, se_yX7_debate⟩
theorem mz_X7_drop : Mv yX7_drop cX7_drop 2 (some .int) 0 := ⟨⟨⟨co_yX7_drop, in_X7⟩, by decide +kernel, by decide⟩, im_yX7_drop, se_yX7_drop⟩
theorem mz_X7_draw : Mv yX7_draw cX7_draw 2 (some .int) 1 := ⟨⟨⟨co_yX7_draw, in_X7⟩, by decide +kernel, by decide⟩, im_yX7_draw, se_yX7_draw⟩
theorem mz_X7_drift : Mv yX7_drift cX7_drift 7 (some .int) 1 := ⟨⟨⟨co_yX7_drift, in_X7⟩, by decide +kernel, by decide⟩, im_yX7_drift, se_yX7_drift⟩
theorem mz_X7_undo : Mv yX7_undo cX7_undo 2 (some .int) 0 := ⟨⟨⟨co_yX7_undo, in_X7⟩, by decide +kernel, by decide⟩, im_yX7_undo, se_yX7_undo⟩
theorem mz_X7_follows : Mv yX7_follows cX7_follows 2 (some .int) 1 := ⟨⟨⟨co_yX7_follows, in_X7⟩, by decide +kernel, by decide⟩, im_yX7_follows, se_yX7_follows⟩
theorem mz_X7_proof : Mv yX7_proof cX7_proof 4 (some .int) 2 := ⟨⟨⟨co_yX7_proof, in_X7⟩, by decide +kernel, by decide⟩, im_yX7_proof, se_yX7_proof⟩
theorem mz_X7_giveUp : Mv yX7_giveUp cX7_giveUp 3 (some .int) 1 := ⟨⟨⟨co_yX7_giveUp, in_X7⟩, by decide +kernel, by decide⟩, im_yX7_giveUp, se_yX7_giveUp⟩
theorem mz_X7_words : Mv yX7_words cX7_words 2 (some .int) 1 := ⟨⟨⟨co_yX7_words, in_X7⟩, by decide +kernel, by decide⟩, im_yX7_words, se_yX7_words⟩
theorem mz_X7_step : Mv yX7_step cX7_step 2 (some .int) 1 := ⟨⟨⟨co_yX7_step, in_X7⟩, by decide +kernel, by decide⟩, im_yX7_step, se_yX7_step⟩
theorem mz_X7_barred : Mv yX7_barred cX7_barred 2 (some .int) 1 := ⟨⟨⟨co_yX7_barred, in_X7⟩, by decide +kernel, by decide⟩, im_yX7_barred, se_yX7_barred⟩
theorem mz_X7_never : Mv yX7_never cX7_never 1 (some .int) 0 := ⟨⟨⟨co_yX7_never, in_X7⟩, by decide +kernel, by decide⟩, im_yX7_never, se_yX7_never⟩
theorem mz_X7_round : Mv yX7_round cX7_round 1 (some .int) 0 := ⟨⟨⟨co_yX7_round, in_X7⟩, by decide +kernel, by decide⟩, im_yX7_round, se_yX7_round⟩
theorem mz_X7_shareVotes : Mv yX7_shareVotes cX7_shareVotes 7 none 2 := ⟨⟨⟨co_yX7_shareVotes, in_X7⟩, by decide +kernel, by decide⟩, im_yX7_shareVotes, se_yX7_shareVotes⟩
theorem mz_X7_vote : Mv yX7_vote cX7_vote 6 (some .int) 2 := ⟨⟨⟨co_yX7_vote, in_X7⟩, by decide +kernel, by decide⟩, im_yX7_vote, se_yX7_vote⟩
theorem mz_X7_ask : Mv yX7_ask cX7_ask 4 (some .int) 3 := ⟨⟨⟨co_yX7_ask, in_X7⟩, by decide +kernel, by decide⟩, im_yX7_ask, se_yX7_ask⟩
theorem mz_X7_believed : Mv yX7_believed cX7_believed 6 (some .int) 1 := ⟨⟨⟨co_yX7_believed, in_X7⟩, by decide +kernel, by decide⟩, im_yX7_believed, se_yX7_believed⟩
theorem mz_X7_countYes : Mv yX7_countYes cX7_countYes 3 none 1 := ⟨⟨⟨co_yX7_countYes, in_X7⟩, by decide +kernel, by decide⟩, im_yX7_countYes, se_yX7_countYes⟩
theorem mz_X7_countAnswers : Mv yX7_countAnswers cX7_countAnswers 3 (some .int) 0 := ⟨⟨⟨co_yX7_countAnswers, in_X7⟩, by decide +kernel, by decide⟩, im_yX7_countAnswers, se_yX7_countAnswers⟩
theorem mz_X7_askNext : Mv yX7_askNext cX7_askNext 6 (some .int) 0 := ⟨⟨⟨co_yX7_askNext, in_X7⟩, by decide +kernel, by decide⟩, im_yX7_askNext, se_yX7_askNext⟩
theorem mz_X7_write : Mv yX7_write cX7_write 3 (some .int) 2 := ⟨⟨⟨co_yX7_write, in_X7⟩, by decide +kernel, by decide⟩, im_yX7_write, se_yX7_write⟩
theorem mz_X7_tear : Mv yX7_tear cX7_tear 2 (some .int) 0 := ⟨⟨⟨co_yX7_tear, in_X7⟩, by decide +kernel, by decide⟩, im_yX7_tear, se_yX7_tear⟩
theorem mz_X7_judge : Mv yX7_judge cX7_judge 1 (some .int) 0 := ⟨⟨⟨co_yX7_judge, in_X7⟩, by decide +kernel, by decide⟩, im_yX7_judge, se_yX7_judge⟩
theorem mz_X7_seed : Mv yX7_seed cX7_seed 3 (some .int) 1 := ⟨⟨⟨co_yX7_seed, in_X7⟩, by decide +kernel, by decide⟩, im_yX7_seed, se_yX7_seed⟩
theorem mz_X7_keep : Mv yX7_keep cX7_keep 2 (some .int) 1 := ⟨⟨⟨co_yX7_keep, in_X7⟩, by decide +kernel, by decide⟩, im_yX7_keep, se_yX7_keep⟩
theorem mz_X7_goBack : Mv yX7_goBack cX7_goBack 3 (some .int) 1 := ⟨⟨⟨co_yX7_goBack, in_X7⟩, by decide +kernel, by decide⟩, im_yX7_goBack, se_yX7_goBack⟩
theorem mz_X8_init : Mc yX8_init cX8_init 1 0 := ⟨⟨⟨co_yX8_init, in_X8⟩, by decide +kernel, by decide⟩, im_yX8_init, rfl⟩
theorem mz_X8_in : Ms yX8_in cX8_in 6 (some .boolean) 3 := ⟨⟨⟨co_yX8_in, in_X8⟩, by decide +kernel, by decide⟩, sm_yX8_in⟩
theorem mz_X8_has : Ms yX8_has cX8_has 2 (some .boolean) 2 := ⟨⟨⟨co_yX8_has, in_X8⟩, by decide +kernel, by decide⟩, sm_yX8_has⟩
theorem mz_X8_bits : Ms yX8_bits cX8_bits 3 (some .int) 1 := ⟨⟨⟨co_yX8_bits, in_X8⟩, by decide +kernel, by decide⟩, sm_yX8_bits⟩
theorem mz_X8_isSaying : Mv yX8_isSaying cX8_isSaying 2 (some .boolean) 1 := ⟨⟨⟨co_yX8_isSaying, in_X8⟩, by decide +kernel, by decide⟩, im_yX8_isSaying, se_yX8_isSaying⟩
theorem mz_X8_isSet : Mv yX8_isSet cX8_isSet 2 (some .boolean) 1 := ⟨⟨⟨co_yX8_isSet, in_X8⟩, by decide +kernel, by decide⟩, im_yX8_isSet, se_yX8_isSet⟩
theorem mz_X8_isRule : Mv yX8_isRule cX8_isRule 2 (some .boolean) 1 := ⟨⟨⟨co_yX8_isRule, in_X8⟩, by decide +kernel, by decide⟩, im_yX8_isRule, se_yX8_isRule⟩
theorem mz_X8_denial : Ms yX8_denial cX8_denial 1 (some .int) 1 := ⟨⟨⟨co_yX8_denial, in_X8⟩, by decide +kernel, by decide⟩, sm_yX8_denial⟩
theorem mz_X8_feed : Mv yX8_feed cX8_feed 2 (some .int) 1 := ⟨⟨⟨co_yX8_feed, in_X8⟩, by decide +kernel, by decide⟩, im_yX8_feed, se_yX8_feed⟩
theorem mz_X8_here : Mv yX8_here cX8_here 1 (some .int) 0 := ⟨⟨⟨co_yX8_here, in_X8⟩, by decide +kernel, by decide⟩, im_yX8_here, se_yX8_here⟩
theorem mz_X8_fails : Mv yX8_fails cX8_fails 3 (some .int) 2 := ⟨⟨⟨co_yX8_fails, in_X8⟩, by decide +kernel, by decide⟩, im_yX8_fails, se_yX8_fails⟩
theorem mz_X8_takeNumber : Mv yX8_takeNumber cX8_takeNumber 4 (some .int) 2 := ⟨⟨⟨co_yX8_takeNumber, in_X8⟩, by decide +kernel, by decide⟩, im_yX8_takeNumber, se_yX8_takeNumber⟩
theorem mz_X8_takeThings : Mv yX8_takeThings cX8_takeThings 2 (some .int) 0 := ⟨⟨⟨co_yX8_takeThings, in_X8⟩, by decide +kernel, by decide⟩, im_yX8_takeThings, se_yX8_takeThings⟩
theorem mz_X8_takeSaying : Mv yX8_takeSaying cX8_takeSaying 3 (some .int) 1 := ⟨⟨⟨co_yX8_takeSaying, in_X8⟩, by decide +kernel, by decide⟩, im_yX8_takeSaying, se_yX8_takeSaying⟩
theorem mz_X8_takeRule : Mv yX8_takeRule cX8_takeRule 4 (some .int) 0 := ⟨⟨⟨co_yX8_takeRule, in_X8⟩, by decide +kernel, by decide⟩, im_yX8_takeRule, se_yX8_takeRule⟩
theorem mz_X8_takeSeen : Mv yX8_takeSeen cX8_takeSeen 2 (some .int) 0 := ⟨⟨⟨co_yX8_takeSeen, in_X8⟩, by decide +kernel, by decide⟩, im_yX8_takeSeen, se_yX8_takeSeen⟩
theorem mz_X8_takeClause : Mv yX8_takeClause cX8_takeClause 4 (some .int) 0 := ⟨⟨⟨co_yX8_takeClause, in_X8⟩, by decide +kernel, by decide⟩, im_yX8_takeClause, se_yX8_takeClause⟩
theorem mz_X8_town : Mv yX8_town cX8_town 3 (some .int) 0 := ⟨⟨⟨co_yX8_town, in_X8⟩, by decide +kernel, by decide⟩, im_yX8_town, se_yX8_town⟩
theorem mz_X8_fault : Mv yX8_fault cX8_fault 1 (some .int) 0 := ⟨⟨⟨co_yX8_fault, in_X8⟩, by decide +kernel, by decide⟩, im_yX8_fault, se_yX8_fault⟩
theorem mz_X8_close : Mv yX8_close cX8_close 6 (some .int) 2 := ⟨⟨⟨co_yX8_close, in_X8⟩, by decide +kernel, by decide⟩, im_yX8_close, se_yX8_close⟩
theorem mz_X8_allowed : Mv yX8_allowed cX8_allowed 1 (some .int) 0 := ⟨⟨⟨co_yX8_allowed, in_X8⟩, by decide +kernel, by decide⟩, im_yX8_allowed, se_yX8_allowed⟩
theorem mz_X8_followsNow : Mv yX8_followsNow cX8_followsNow 1 (some .int) 0 := ⟨⟨⟨co_yX8_followsNow, in_X8⟩, by decide +kernel, by decide⟩, im_yX8_followsNow, se_yX8_followsNow⟩
theorem mz_X8_quarrels : Ms yX8_quarrels cX8_quarrels 3 (some .int) 1 := ⟨⟨⟨co_yX8_quarrels, in_X8⟩, by decide +kernel, by decide⟩, sm_yX8_quarrels⟩
theorem mz_X8_told : Mv yX8_told cX8_told 2 (some .int) 1 := ⟨⟨⟨co_yX8_told, in_X8⟩, by decide +kernel, by decide⟩, im_yX8_told, se_yX8_told⟩
theorem mz_X8_rule : Mv yX8_rule cX8_rule 3 (some .int) 2 := ⟨⟨⟨co_yX8_rule, in_X8⟩, by decide +kernel, by decide⟩, im_yX8_rule, se_yX8_rule⟩
theorem mz_X8_remember : Mv yX8_remember cX8_remember 2 none 0 := ⟨⟨⟨co_yX8_remember, in_X8⟩, by decide +kernel, by decide⟩, im_yX8_remember, se_yX8_remember⟩
theorem mz_X8_with : Ms yX8_with cX8_with 3 (some .int) 3 := ⟨⟨⟨co_yX8_with, in_X8⟩, by decide +kernel, by decide⟩, sm_yX8_with⟩
theorem mz_X8_see : Mv yX8_see cX8_see 4 (some .int) 2 := ⟨⟨⟨co_yX8_see, in_X8⟩, by decide +kernel, by decide⟩, im_yX8_see, se_yX8_see⟩
theorem mz_X8_forbid : Mv yX8_forbid cX8_forbid 4 (some .int) 2 := ⟨⟨⟨co_yX8_forbid, in_X8⟩, by decide +kernel, by decide⟩, im_yX8_forbid, se_yX8_forbid⟩
theorem mz_X8_debateNow : Mv yX8_debateNow cX8_debateNow 1 none 0 := ⟨⟨⟨co_yX8_debateNow, in_X8⟩, by decide +kernel, by decide⟩, im_yX8_debateNow, se_yX8_debateNow⟩
theorem mz_X8_debate : Mv yX8_debate cX8_debate 1 (some .int) 0 := ⟨⟨⟨co_yX8_debate, in_X8⟩, by decide +kernel, by decide⟩, im_yX8_debate, se_yX8_debate⟩
theorem mz_X8_drop : Mv yX8_drop cX8_drop 2 (some .int) 0 := ⟨⟨⟨co_yX8_drop, in_X8⟩, by decide +kernel, by decide⟩, im_yX8_drop, se_yX8_drop⟩
theorem mz_X8_draw : Mv yX8_draw cX8_draw 2 (some .int) 1 := ⟨⟨⟨co_yX8_draw, in_X8⟩, by decide +kernel, by decide⟩, im_yX8_draw, se_yX8_draw⟩
theorem mz_X8_drift : Mv yX8_drift cX8_drift 4 (some .int) 1 := ⟨⟨⟨co_yX8_drift, in_X8⟩, by decide +kernel, by decide⟩, im_yX8_drift, se_yX8_drift⟩
theorem mz_X8_undo : Mv yX8_undo cX8_undo 2 (some .int) 0 := ⟨⟨⟨co_yX8_undo, in_X8⟩, by decide +kernel, by decide⟩, im_yX8_undo, se_yX8_undo⟩
theorem mz_X8_follows : Mv yX8_follows cX8_follows 2 (some .int) 1 := ⟨⟨⟨co_yX8_follows, in_X8⟩, by decide +kernel, by decide⟩, im_yX8_follows, se_yX8_follows⟩
theorem mz_X8_proof : Mv yX8_proof cX8_proof 6 (some .int) 2 := ⟨⟨⟨co_yX8_proof, in_X8⟩, by decide +kernel, by decide⟩, im_yX8_proof, se_yX8_proof⟩
theorem mz_X8_costOf : Mv yX8_costOf cX8_costOf 4 (some .int) 1 := ⟨⟨⟨co_yX8_costOf, in_X8⟩, by decide +kernel, by decide⟩, im_yX8_costOf, se_yX8_costOf⟩
theorem mz_X8_giveUp : Mv yX8_giveUp cX8_giveUp 6 (some .int) 1 := ⟨⟨⟨co_yX8_giveUp, in_X8⟩, by decide +kernel, by decide⟩, im_yX8_giveUp, se_yX8_giveUp⟩
theorem mz_X8_doWords : Mv yX8_doWords cX8_doWords 4 (some .boolean) 2 := ⟨⟨⟨co_yX8_doWords, in_X8⟩, by decide +kernel, by decide⟩, im_yX8_doWords, se_yX8_doWords⟩
theorem mz_X8_words : Mv yX8_words cX8_words 7 (some .int) 1 := ⟨⟨⟨co_yX8_words, in_X8⟩, by decide +kernel, by decide⟩, im_yX8_words, se_yX8_words⟩
theorem mz_X8_step : Mv yX8_step cX8_step 5 (some .int) 1 := ⟨⟨⟨co_yX8_step, in_X8⟩, by decide +kernel, by decide⟩, im_yX8_step, se_yX8_step⟩
theorem mz_X8_barred : Mv yX8_barred cX8_barred 5 (some .int) 1 := ⟨⟨⟨co_yX8_barred, in_X8⟩, by decide +kernel, by decide⟩, im_yX8_barred, se_yX8_barred⟩
theorem mz_X8_never : Mv yX8_never cX8_never 3 (some .int) 0 := ⟨⟨⟨co_yX8_never, in_X8⟩, by decide +kernel, by decide⟩, im_yX8_never, se_yX8_never⟩
theorem mz_X8_round : Mv yX8_round cX8_round 4 (some .int) 0 := ⟨⟨⟨co_yX8_round, in_X8⟩, by decide +kernel, by decide⟩, im_yX8_round, se_yX8_round⟩
theorem mz_X8_vote : Mv yX8_vote cX8_vote 7 (some .int) 2 := ⟨⟨⟨co_yX8_vote, in_X8⟩, by decide +kernel, by decide⟩, im_yX8_vote, se_yX8_vote⟩
theorem mz_X8_ask : Mv yX8_ask cX8_ask 4 (some .int) 3 := ⟨⟨⟨co_yX8_ask, in_X8⟩, by decide +kernel, by decide⟩, im_yX8_ask, se_yX8_ask⟩
theorem mz_X8_isBelieved : Mv yX8_isBelieved cX8_isBelieved 4 (some .boolean) 1 := ⟨⟨⟨co_yX8_isBelieved, in_X8⟩, by decide +kernel, by decide⟩, im_yX8_isBelieved, se_yX8_isBelieved⟩
theorem mz_X8_believed : Mv yX8_believed cX8_believed 6 (some .int) 1 := ⟨⟨⟨co_yX8_believed, in_X8⟩, by decide +kernel, by decide⟩, im_yX8_believed, se_yX8_believed⟩
theorem mz_X8_askNext : Mv yX8_askNext cX8_askNext 6 (some .int) 0 := ⟨⟨⟨co_yX8_askNext, in_X8⟩, by decide +kernel, by decide⟩, im_yX8_askNext, se_yX8_askNext⟩
theorem mz_X8_write : Mv yX8_write cX8_write 3 (some .int) 2 := ⟨⟨⟨co_yX8_write, in_X8⟩, by decide +kernel, by decide⟩, im_yX8_write, se_yX8_write⟩
theorem mz_X8_tear : Mv yX8_tear cX8_tear 2 (some .int) 0 := ⟨⟨⟨co_yX8_tear, in_X8⟩, by decide +kernel, by decide⟩, im_yX8_tear, se_yX8_tear⟩
theorem mz_X8_judge : Mv yX8_judge cX8_judge 3 (some .int) 0 := ⟨⟨⟨co_yX8_judge, in_X8⟩, by decide +kernel, by decide⟩, im_yX8_judge, se_yX8_judge⟩
theorem mz_X8_seed : Mv yX8_seed cX8_seed 3 (some .int) 1 := ⟨⟨⟨co_yX8_seed, in_X8⟩, by decide +kernel, by decide⟩, im_yX8_seed, se_yX8_seed⟩
theorem mz_X8_keep : Mv yX8_keep cX8_keep 3 (some .int) 1 := ⟨⟨⟨co_yX8_keep, in_X8⟩, by decide +kernel, by decide⟩, im_yX8_keep, se_yX8_keep⟩
theorem mz_X8_goBack : Mv yX8_goBack cX8_goBack 3 (some .int) 1 := ⟨⟨⟨co_yX8_goBack, in_X8⟩, by decide +kernel, by decide⟩, im_yX8_goBack, se_yX8_goBack⟩
