/-! calls of which only a property of the answer and of the memory is told -/
def RX (P : Int32 → Mem → Prop) : Option Value → Mem → Prop := fun r S' => ∃ v, r = some (.int v) ∧ P v S'
def RW (P : Mem → Prop) : Option Value → Mem → Prop := fun r S' => r = none ∧ P S'
section CALLX
variable {own : String} {cc : ByteArray} {nL : Nat} {ret : Option FieldType} {d : Nat} {ini : Bool} {Φ : Option Value → Mem → Prop} {κ : Kx} {rc rs rc0 rs0 : Nat} {S : Mem} {pc q : Nat} {ls st : List Value}
variable {y : MethodName} {cc' : ByteArray} {nL' : Nat} {ret' : Option FieldType} {d' mc' ms' : Nat}
theorem g_cV0x (C : Cx own cc nL ret d ini Φ κ) {b index : Nat} {P : Int32 → Mem → Prop} (hd : decode cc pc = .ok (.invokevirtual index, 3)) (hq : pc + 3 = q) (hu : Cond.methodLink own index y ∈ UT) (hm : Mv y cc' nL' ret' 0) (hO : Ok y cc' nL' ret' d' mc' ms' [.ref b] S (RX P)) (hdp : d' < d) (hrc : rc + mc' = rc0) (hrs : rs + ms' = rs0) (hb : ck1 b 0 = true) (hcn : CN (K0 b) = y.cls) (hsm : (st.map fun v => v.category).sum ≤ 8) (k : ∀ v S', P v S' → mN S ≤ mN S' → G κ rc rs S' q ls (.int v :: st)) : G κ rc0 rs0 S pc ls (.ref b :: st) := by
  subst hq; subst hrc; subst hrs
  intro ad H locs lsA cells slots hw hl hs
  have hbn : b < mN S := hs (.ref b) (by simp)
  exact g_callV (As := []) C hd hu hm.1 hm.2.1 hm.2.2 hO hdp rfl (wk hw hbn (ck1_ok hb).1) (ck1_ok hb).2.1 hcn hsm (fun r S' h hn => by obtain ⟨v, rfl, hp⟩ := h; exact k v S' hp hn) ad H locs lsA cells slots hw hl hs
theorem g_cD0x (C : Cx own cc nL ret d ini Φ κ) {b ci index : Nat} {P : Int32 → Mem → Prop} (hd : decode cc pc = .ok (.invokevirtual index, 3)) (hq : pc + 3 = q) (hu : Cond.methodLink own index y ∈ UT) (hm : Mv y cc' nL' ret' 0) (hO : Ok y cc' nL' ret' d' mc' ms' [.ref b] S (RX P)) (hdp : d' < d) (hrc : rc + mc' = rc0) (hrs : rs + ms' = rs0) (hb : mK S b = ci) (hc : ci < 9) (hcn : CN ci = y.cls) (hsm : (st.map fun v => v.category).sum ≤ 8) (k : ∀ v S', P v S' → mN S ≤ mN S' → G κ rc rs S' q ls (.int v :: st)) : G κ rc0 rs0 S pc ls (.ref b :: st) := by
  subst hq; subst hrc; subst hrs
  exact g_callV (As := []) C hd hu hm.1 hm.2.1 hm.2.2 hO hdp rfl hb hc hcn hsm (fun r S' h hn => by obtain ⟨v, rfl, hp⟩ := h; exact k v S' hp hn)
theorem g_cV0w (C : Cx own cc nL ret d ini Φ κ) {b index : Nat} {P : Mem → Prop} (hd : decode cc pc = .ok (.invokevirtual index, 3)) (hq : pc + 3 = q) (hu : Cond.methodLink own index y ∈ UT) (hm : Mv y cc' nL' ret' 0) (hO : Ok y cc' nL' ret' d' mc' ms' [.ref b] S (RW P)) (hdp : d' < d) (hrc : rc + mc' = rc0) (hrs : rs + ms' = rs0) (hb : ck1 b 0 = true) (hcn : CN (K0 b) = y.cls) (hsm : (st.map fun v => v.category).sum ≤ 8) (k : ∀ S', P S' → mN S ≤ mN S' → G κ rc rs S' q ls st) : G κ rc0 rs0 S pc ls (.ref b :: st) := by
  subst hq; subst hrc; subst hrs
  intro ad H locs lsA cells slots hw hl hs
  have hbn : b < mN S := hs (.ref b) (by simp)
  exact g_callV (As := []) C hd hu hm.1 hm.2.1 hm.2.2 hO hdp rfl (wk hw hbn (ck1_ok hb).1) (ck1_ok hb).2.1 hcn hsm (fun r S' h hn => by obtain ⟨rfl, hp⟩ := h; exact k S' hp hn) ad H locs lsA cells slots hw hl hs
theorem g_cD0w (C : Cx own cc nL ret d ini Φ κ) {b ci index : Nat} {P : Mem → Prop} (hd : decode cc pc = .ok (.invokevirtual index, 3)) (hq : pc + 3 = q) (hu : Cond.methodLink own index y ∈ UT) (hm : Mv y cc' nL' ret' 0) (hO : Ok y cc' nL' ret' d' mc' ms' [.ref b] S (RW P)) (hdp : d' < d) (hrc : rc + mc' = rc0) (hrs : rs + ms' = rs0) (hb : mK S b = ci) (hc : ci < 9) (hcn : CN ci = y.cls) (hsm : (st.map fun v => v.category).sum ≤ 8) (k : ∀ S', P S' → mN S ≤ mN S' → G κ rc rs S' q ls st) : G κ rc0 rs0 S pc ls (.ref b :: st) := by
  subst hq; subst hrc; subst hrs
  exact g_callV (As := []) C hd hu hm.1 hm.2.1 hm.2.2 hO hdp rfl hb hc hcn hsm (fun r S' h hn => by obtain ⟨rfl, hp⟩ := h; exact k S' hp hn)
theorem g_cV1x (C : Cx own cc nL ret d ini Φ κ) {b index : Nat} {a1 : Value} {P : Int32 → Mem → Prop} (hd : decode cc pc = .ok (.invokevirtual index, 3)) (hq : pc + 3 = q) (hu : Cond.methodLink own index y ∈ UT) (hm : Mv y cc' nL' ret' 1) (hO : Ok y cc' nL' ret' d' mc' ms' [.ref b, a1] S (RX P)) (hdp : d' < d) (hrc : rc + mc' = rc0) (hrs : rs + ms' = rs0) (hb : ck1 b 0 = true) (hcn : CN (K0 b) = y.cls) (hsm : (st.map fun v => v.category).sum ≤ 8) (k : ∀ v S', P v S' → mN S ≤ mN S' → G κ rc rs S' q ls (.int v :: st)) : G κ rc0 rs0 S pc ls (a1 :: .ref b :: st) := by
  subst hq; subst hrc; subst hrs
  intro ad H locs lsA cells slots hw hl hs
  have hbn : b < mN S := hs (.ref b) (by simp)
  exact g_callV (As := [a1]) C hd hu hm.1 hm.2.1 hm.2.2 hO hdp rfl (wk hw hbn (ck1_ok hb).1) (ck1_ok hb).2.1 hcn hsm (fun r S' h hn => by obtain ⟨v, rfl, hp⟩ := h; exact k v S' hp hn) ad H locs lsA cells slots hw hl hs
theorem g_cD1x (C : Cx own cc nL ret d ini Φ κ) {b ci index : Nat} {a1 : Value} {P : Int32 → Mem → Prop} (hd : decode cc pc = .ok (.invokevirtual index, 3)) (hq : pc + 3 = q) (hu : Cond.methodLink own index y ∈ UT) (hm : Mv y cc' nL' ret' 1) (hO : Ok y cc' nL' ret' d' mc' ms' [.ref b, a1] S (RX P)) (hdp : d' < d) (hrc : rc + mc' = rc0) (hrs : rs + ms' = rs0) (hb : mK S b = ci) (hc : ci < 9) (hcn : CN ci = y.cls) (hsm : (st.map fun v => v.category).sum ≤ 8) (k : ∀ v S', P v S' → mN S ≤ mN S' → G κ rc rs S' q ls (.int v :: st)) : G κ rc0 rs0 S pc ls (a1 :: .ref b :: st) := by
  subst hq; subst hrc; subst hrs
  exact g_callV (As := [a1]) C hd hu hm.1 hm.2.1 hm.2.2 hO hdp rfl hb hc hcn hsm (fun r S' h hn => by obtain ⟨v, rfl, hp⟩ := h; exact k v S' hp hn)
theorem g_cV1w (C : Cx own cc nL ret d ini Φ κ) {b index : Nat} {a1 : Value} {P : Mem → Prop} (hd : decode cc pc = .ok (.invokevirtual index, 3)) (hq : pc + 3 = q) (hu : Cond.methodLink own index y ∈ UT) (hm : Mv y cc' nL' ret' 1) (hO : Ok y cc' nL' ret' d' mc' ms' [.ref b, a1] S (RW P)) (hdp : d' < d) (hrc : rc + mc' = rc0) (hrs : rs + ms' = rs0) (hb : ck1 b 0 = true) (hcn : CN (K0 b) = y.cls) (hsm : (st.map fun v => v.category).sum ≤ 8) (k : ∀ S', P S' → mN S ≤ mN S' → G κ rc rs S' q ls st) : G κ rc0 rs0 S pc ls (a1 :: .ref b :: st) := by
  subst hq; subst hrc; subst hrs
  intro ad H locs lsA cells slots hw hl hs
  have hbn : b < mN S := hs (.ref b) (by simp)
  exact g_callV (As := [a1]) C hd hu hm.1 hm.2.1 hm.2.2 hO hdp rfl (wk hw hbn (ck1_ok hb).1) (ck1_ok hb).2.1 hcn hsm (fun r S' h hn => by obtain ⟨rfl, hp⟩ := h; exact k S' hp hn) ad H locs lsA cells slots hw hl hs
theorem g_cD1w (C : Cx own cc nL ret d ini Φ κ) {b ci index : Nat} {a1 : Value} {P : Mem → Prop} (hd : decode cc pc = .ok (.invokevirtual index, 3)) (hq : pc + 3 = q) (hu : Cond.methodLink own index y ∈ UT) (hm : Mv y cc' nL' ret' 1) (hO : Ok y cc' nL' ret' d' mc' ms' [.ref b, a1] S (RW P)) (hdp : d' < d) (hrc : rc + mc' = rc0) (hrs : rs + ms' = rs0) (hb : mK S b = ci) (hc : ci < 9) (hcn : CN ci = y.cls) (hsm : (st.map fun v => v.category).sum ≤ 8) (k : ∀ S', P S' → mN S ≤ mN S' → G κ rc rs S' q ls st) : G κ rc0 rs0 S pc ls (a1 :: .ref b :: st) := by
  subst hq; subst hrc; subst hrs
  exact g_callV (As := [a1]) C hd hu hm.1 hm.2.1 hm.2.2 hO hdp rfl hb hc hcn hsm (fun r S' h hn => by obtain ⟨rfl, hp⟩ := h; exact k S' hp hn)
theorem g_cV2x (C : Cx own cc nL ret d ini Φ κ) {b index : Nat} {a1 a2 : Value} {P : Int32 → Mem → Prop} (hd : decode cc pc = .ok (.invokevirtual index, 3)) (hq : pc + 3 = q) (hu : Cond.methodLink own index y ∈ UT) (hm : Mv y cc' nL' ret' 2) (hO : Ok y cc' nL' ret' d' mc' ms' [.ref b, a1, a2] S (RX P)) (hdp : d' < d) (hrc : rc + mc' = rc0) (hrs : rs + ms' = rs0) (hb : ck1 b 0 = true) (hcn : CN (K0 b) = y.cls) (hsm : (st.map fun v => v.category).sum ≤ 8) (k : ∀ v S', P v S' → mN S ≤ mN S' → G κ rc rs S' q ls (.int v :: st)) : G κ rc0 rs0 S pc ls (a2 :: a1 :: .ref b :: st) := by
  subst hq; subst hrc; subst hrs
  intro ad H locs lsA cells slots hw hl hs
  have hbn : b < mN S := hs (.ref b) (by simp)
  exact g_callV (As := [a1, a2]) C hd hu hm.1 hm.2.1 hm.2.2 hO hdp rfl (wk hw hbn (ck1_ok hb).1) (ck1_ok hb).2.1 hcn hsm (fun r S' h hn => by obtain ⟨v, rfl, hp⟩ := h; exact k v S' hp hn) ad H locs lsA cells slots hw hl hs
theorem g_cD2x (C : Cx own cc nL ret d ini Φ κ) {b ci index : Nat} {a1 a2 : Value} {P : Int32 → Mem → Prop} (hd : decode cc pc = .ok (.invokevirtual index, 3)) (hq : pc + 3 = q) (hu : Cond.methodLink own index y ∈ UT) (hm : Mv y cc' nL' ret' 2) (hO : Ok y cc' nL' ret' d' mc' ms' [.ref b, a1, a2] S (RX P)) (hdp : d' < d) (hrc : rc + mc' = rc0) (hrs : rs + ms' = rs0) (hb : mK S b = ci) (hc : ci < 9) (hcn : CN ci = y.cls) (hsm : (st.map fun v => v.category).sum ≤ 8) (k : ∀ v S', P v S' → mN S ≤ mN S' → G κ rc rs S' q ls (.int v :: st)) : G κ rc0 rs0 S pc ls (a2 :: a1 :: .ref b :: st) := by
  subst hq; subst hrc; subst hrs
  exact g_callV (As := [a1, a2]) C hd hu hm.1 hm.2.1 hm.2.2 hO hdp rfl hb hc hcn hsm (fun r S' h hn => by obtain ⟨v, rfl, hp⟩ := h; exact k v S' hp hn)
theorem g_cV2w (C : Cx own cc nL ret d ini Φ κ) {b index : Nat} {a1 a2 : Value} {P : Mem → Prop} (hd : decode cc pc = .ok (.invokevirtual index, 3)) (hq : pc + 3 = q) (hu : Cond.methodLink own index y ∈ UT) (hm : Mv y cc' nL' ret' 2) (hO : Ok y cc' nL' ret' d' mc' ms' [.ref b, a1, a2] S (RW P)) (hdp : d' < d) (hrc : rc + mc' = rc0) (hrs : rs + ms' = rs0) (hb : ck1 b 0 = true) (hcn : CN (K0 b) = y.cls) (hsm : (st.map fun v => v.category).sum ≤ 8) (k : ∀ S', P S' → mN S ≤ mN S' → G κ rc rs S' q ls st) : G κ rc0 rs0 S pc ls (a2 :: a1 :: .ref b :: st) := by
  subst hq; subst hrc; subst hrs
  intro ad H locs lsA cells slots hw hl hs
  have hbn : b < mN S := hs (.ref b) (by simp)
  exact g_callV (As := [a1, a2]) C hd hu hm.1 hm.2.1 hm.2.2 hO hdp rfl (wk hw hbn (ck1_ok hb).1) (ck1_ok hb).2.1 hcn hsm (fun r S' h hn => by obtain ⟨rfl, hp⟩ := h; exact k S' hp hn) ad H locs lsA cells slots hw hl hs
theorem g_cD2w (C : Cx own cc nL ret d ini Φ κ) {b ci index : Nat} {a1 a2 : Value} {P : Mem → Prop} (hd : decode cc pc = .ok (.invokevirtual index, 3)) (hq : pc + 3 = q) (hu : Cond.methodLink own index y ∈ UT) (hm : Mv y cc' nL' ret' 2) (hO : Ok y cc' nL' ret' d' mc' ms' [.ref b, a1, a2] S (RW P)) (hdp : d' < d) (hrc : rc + mc' = rc0) (hrs : rs + ms' = rs0) (hb : mK S b = ci) (hc : ci < 9) (hcn : CN ci = y.cls) (hsm : (st.map fun v => v.category).sum ≤ 8) (k : ∀ S', P S' → mN S ≤ mN S' → G κ rc rs S' q ls st) : G κ rc0 rs0 S pc ls (a2 :: a1 :: .ref b :: st) := by
  subst hq; subst hrc; subst hrs
  exact g_callV (As := [a1, a2]) C hd hu hm.1 hm.2.1 hm.2.2 hO hdp rfl hb hc hcn hsm (fun r S' h hn => by obtain ⟨rfl, hp⟩ := h; exact k S' hp hn)
theorem g_cV3x (C : Cx own cc nL ret d ini Φ κ) {b index : Nat} {a1 a2 a3 : Value} {P : Int32 → Mem → Prop} (hd : decode cc pc = .ok (.invokevirtual index, 3)) (hq : pc + 3 = q) (hu : Cond.methodLink own index y ∈ UT) (hm : Mv y cc' nL' ret' 3) (hO : Ok y cc' nL' ret' d' mc' ms' [.ref b, a1, a2, a3] S (RX P)) (hdp : d' < d) (hrc : rc + mc' = rc0) (hrs : rs + ms' = rs0) (hb : ck1 b 0 = true) (hcn : CN (K0 b) = y.cls) (hsm : (st.map fun v => v.category).sum ≤ 8) (k : ∀ v S', P v S' → mN S ≤ mN S' → G κ rc rs S' q ls (.int v :: st)) : G κ rc0 rs0 S pc ls (a3 :: a2 :: a1 :: .ref b :: st) := by
  subst hq; subst hrc; subst hrs
  intro ad H locs lsA cells slots hw hl hs
  have hbn : b < mN S := hs (.ref b) (by simp)
  exact g_callV (As := [a1, a2, a3]) C hd hu hm.1 hm.2.1 hm.2.2 hO hdp rfl (wk hw hbn (ck1_ok hb).1) (ck1_ok hb).2.1 hcn hsm (fun r S' h hn => by obtain ⟨v, rfl, hp⟩ := h; exact k v S' hp hn) ad H locs lsA cells slots hw hl hs
theorem g_cD3x (C : Cx own cc nL ret d ini Φ κ) {b ci index : Nat} {a1 a2 a3 : Value} {P : Int32 → Mem → Prop} (hd : decode cc pc = .ok (.invokevirtual index, 3)) (hq : pc + 3 = q) (hu : Cond.methodLink own index y ∈ UT) (hm : Mv y cc' nL' ret' 3) (hO : Ok y cc' nL' ret' d' mc' ms' [.ref b, a1, a2, a3] S (RX P)) (hdp : d' < d) (hrc : rc + mc' = rc0) (hrs : rs + ms' = rs0) (hb : mK S b = ci) (hc : ci < 9) (hcn : CN ci = y.cls) (hsm : (st.map fun v => v.category).sum ≤ 8) (k : ∀ v S', P v S' → mN S ≤ mN S' → G κ rc rs S' q ls (.int v :: st)) : G κ rc0 rs0 S pc ls (a3 :: a2 :: a1 :: .ref b :: st) := by
  subst hq; subst hrc; subst hrs
  exact g_callV (As := [a1, a2, a3]) C hd hu hm.1 hm.2.1 hm.2.2 hO hdp rfl hb hc hcn hsm (fun r S' h hn => by obtain ⟨v, rfl, hp⟩ := h; exact k v S' hp hn)
theorem g_cV3w (C : Cx own cc nL ret d ini Φ κ) {b index : Nat} {a1 a2 a3 : Value} {P : Mem → Prop} (hd : decode cc pc = .ok (.invokevirtual index, 3)) (hq : pc + 3 = q) (hu : Cond.methodLink own index y ∈ UT) (hm : Mv y cc' nL' ret' 3) (hO : Ok y cc' nL' ret' d' mc' ms' [.ref b, a1, a2, a3] S (RW P)) (hdp : d' < d) (hrc : rc + mc' = rc0) (hrs : rs + ms' = rs0) (hb : ck1 b 0 = true) (hcn : CN (K0 b) = y.cls) (hsm : (st.map fun v => v.category).sum ≤ 8) (k : ∀ S', P S' → mN S ≤ mN S' → G κ rc rs S' q ls st) : G κ rc0 rs0 S pc ls (a3 :: a2 :: a1 :: .ref b :: st) := by
  subst hq; subst hrc; subst hrs
  intro ad H locs lsA cells slots hw hl hs
  have hbn : b < mN S := hs (.ref b) (by simp)
  exact g_callV (As := [a1, a2, a3]) C hd hu hm.1 hm.2.1 hm.2.2 hO hdp rfl (wk hw hbn (ck1_ok hb).1) (ck1_ok hb).2.1 hcn hsm (fun r S' h hn => by obtain ⟨rfl, hp⟩ := h; exact k S' hp hn) ad H locs lsA cells slots hw hl hs
theorem g_cD3w (C : Cx own cc nL ret d ini Φ κ) {b ci index : Nat} {a1 a2 a3 : Value} {P : Mem → Prop} (hd : decode cc pc = .ok (.invokevirtual index, 3)) (hq : pc + 3 = q) (hu : Cond.methodLink own index y ∈ UT) (hm : Mv y cc' nL' ret' 3) (hO : Ok y cc' nL' ret' d' mc' ms' [.ref b, a1, a2, a3] S (RW P)) (hdp : d' < d) (hrc : rc + mc' = rc0) (hrs : rs + ms' = rs0) (hb : mK S b = ci) (hc : ci < 9) (hcn : CN ci = y.cls) (hsm : (st.map fun v => v.category).sum ≤ 8) (k : ∀ S', P S' → mN S ≤ mN S' → G κ rc rs S' q ls st) : G κ rc0 rs0 S pc ls (a3 :: a2 :: a1 :: .ref b :: st) := by
  subst hq; subst hrc; subst hrs
  exact g_callV (As := [a1, a2, a3]) C hd hu hm.1 hm.2.1 hm.2.2 hO hdp rfl hb hc hcn hsm (fun r S' h hn => by obtain ⟨rfl, hp⟩ := h; exact k S' hp hn)
end CALLX

/-! reading the text: one pure reader -/
theorem upd_same {f : Nat → Int32} {i : Nat} {x : Int32} (h : f i = x) : upd f i x = f := by
  funext j
  unfold upd
  by_cases e : j = i
  · rw [if_pos e, e, h]
  · rw [if_neg e]
theorem upd_at (f : Nat → Int32) (i : Nat) (x : Int32) : upd f i x i = x := by unfold upd; rw [if_pos rfl]
theorem upd_ne (f : Nat → Int32) {i j : Nat} (x : Int32) (h : j ≠ i) : upd f i x j = f j := by unfold upd; rw [if_neg h]
theorem upd_upd (f : Nat → Int32) (i : Nat) (x z : Int32) : upd (upd f i x) i z = upd f i z := by
  funext j
  unfold upd
  by_cases e : j = i <;> simp [e]
/-- skip blanks -/
def skF (tx : Nat → Int32) (tn : Nat) : Nat → Nat → Nat
  | 0, p => p
  | n + 1, p => if p < tn ∧ tx p = 32 then skF tx tn n (p + 1) else p
def skp (tx : Nat → Int32) (tn p : Nat) : Nat := skF tx tn (tn - p) p
theorem skF_le (tx : Nat → Int32) (tn : Nat) : ∀ n p, p ≤ tn → p ≤ skF tx tn n p ∧ skF tx tn n p ≤ tn
  | 0, p, h => ⟨Nat.le_refl p, h⟩
  | n + 1, p, h => by
    unfold skF
    by_cases c : p < tn ∧ tx p = 32
    · rw [if_pos c]
      have := skF_le tx tn n (p + 1) (by omega)
      omega
    · rw [if_neg c]
      exact ⟨Nat.le_refl p, h⟩
theorem skp_le {tx : Nat → Int32} {tn p : Nat} (h : p ≤ tn) : p ≤ skp tx tn p ∧ skp tx tn p ≤ tn := skF_le tx tn _ p h
theorem skp_s {tx : Nat → Int32} {tn p : Nat} (h : p < tn) (h2 : tx p = 32) : skp tx tn p = skp tx tn (p + 1) := by
  unfold skp
  rw [show tn - p = (tn - (p + 1)) + 1 by omega]
  show (if p < tn ∧ tx p = 32 then skF tx tn (tn - (p + 1)) (p + 1) else p) = _
  rw [if_pos ⟨h, h2⟩]
theorem skp_0 {tx : Nat → Int32} {tn p : Nat} (h : ¬ (p < tn ∧ tx p = 32)) : skp tx tn p = p := by
  unfold skp
  cases e : tn - p with
  | zero => rfl
  | succ n => exact if_neg h
theorem skF_stop (tx : Nat → Int32) (tn : Nat) : ∀ n p, tn ≤ p + n → ¬ (skF tx tn n p < tn ∧ tx (skF tx tn n p) = 32)
  | 0, p, h => by
    show ¬ (p < tn ∧ tx p = 32)
    omega
  | n + 1, p, h => by
    unfold skF
    by_cases c : p < tn ∧ tx p = 32
    · rw [if_pos c]
      exact skF_stop tx tn n (p + 1) (by omega)
    · rw [if_neg c]
      exact c
theorem skp_idem {tx : Nat → Int32} {tn p : Nat} : skp tx tn (skp tx tn p) = skp tx tn p := skp_0 (skF_stop tx tn _ p (by omega))
def chr9 (tx : Nat → Int32) (tn p : Nat) : Int32 := if p < tn then tx p else -1
def dig (tx : Nat → Int32) (tn p : Nat) : Bool := decide (p < tn) && inI (tx p) 48 57
/-- the end of the figures -/
def dgF (tx : Nat → Int32) (tn : Nat) : Nat → Nat → Nat
  | 0, p => p
  | n + 1, p => if dig tx tn p = true then dgF tx tn n (p + 1) else p
def dgE (tx : Nat → Int32) (tn p : Nat) : Nat := dgF tx tn (tn - p) p
theorem dig_lt {tx : Nat → Int32} {tn p : Nat} (h : dig tx tn p = true) : p < tn := by
  unfold dig at h
  rw [Bool.and_eq_true] at h
  exact of_decide_eq_true h.1
theorem dgE_s {tx : Nat → Int32} {tn p : Nat} (h : dig tx tn p = true) : dgE tx tn p = dgE tx tn (p + 1) := by
  have := dig_lt h
  unfold dgE
  rw [show tn - p = (tn - (p + 1)) + 1 by omega]
  exact if_pos h
theorem dgE_0 {tx : Nat → Int32} {tn p : Nat} (h : dig tx tn p = false) : dgE tx tn p = p := by
  unfold dgE
  cases e : tn - p with
  | zero => rfl
  | succ n => exact if_neg (by rw [h]; decide)
theorem dgF_le (tx : Nat → Int32) (tn : Nat) : ∀ n p, p ≤ tn → p ≤ dgF tx tn n p ∧ dgF tx tn n p ≤ tn
  | 0, p, h => ⟨Nat.le_refl p, h⟩
  | n + 1, p, h => by
    unfold dgF
    by_cases c : dig tx tn p = true
    · rw [if_pos c]
      have := dig_lt c
      have := dgF_le tx tn n (p + 1) (by omega)
      omega
    · rw [if_neg c]
      exact ⟨Nat.le_refl p, h⟩
theorem dgE_le {tx : Nat → Int32} {tn p : Nat} (h : p ≤ tn) : p ≤ dgE tx tn p ∧ dgE tx tn p ≤ tn := dgF_le tx tn _ p h
theorem dgE_lt {tx : Nat → Int32} {tn p : Nat} (h : dig tx tn p = true) : p < dgE tx tn p := by
  rw [dgE_s h]
  have := dig_lt h
  have := (dgE_le (tx := tx) (tn := tn) (p := p + 1) (by omega)).1
  omega
/-- a figure's worth -/
def fgN (x : Int32) : Nat := x.toNatClampNeg - 48
theorem fgN_ok {tx : Nat → Int32} {tn p : Nat} (h : dig tx tn p = true) : fgN (tx p) ≤ 9 ∧ tx p = nI (fgN (tx p) + 48) := by
  unfold dig at h
  rw [Bool.and_eq_true] at h
  have h1 := of_decide_eq_true h.2
  have h0 : ¬ tx p < 0 := by
    have := h1.1
    rw [Int32.le_iff_toInt_le] at this
    rw [Int32.lt_iff_toInt_lt]
    have e1 : (48 : Int32).toInt = 48 := rfl
    have e0 : (0 : Int32).toInt = 0 := rfl
    omega
  obtain ⟨j, hj, e⟩ := nI_of2 (M := 57) (n := 57) rfl h0 h1.2
  have h48 : 48 ≤ j := by
    have := h1.1
    rw [e] at this
    exact n_ge (b := 48) this (by omega) (by decide)
  unfold fgN
  rw [e, nI_clamp (by omega)]
  refine ⟨by omega, ?_⟩
  congr 1
  omega
/-- the worth of the figures from p on, n of them -/
def dvl (tx : Nat → Int32) (p : Nat) : Nat → Nat
  | 0 => 0
  | n + 1 => 10 * dvl tx p n + fgN (tx (p + n))
/-- a number within its bounds: (where, behind it, worth), or the fault and where -/
def numR (tx : Nat → Int32) (tn lo hi p : Nat) : (Nat × Nat) ⊕ (Nat × Nat × Nat) :=
  if dig tx tn (skp tx tn p) = true then
    (if 3 < dgE tx tn (skp tx tn p) - skp tx tn p ∨ dvl tx (skp tx tn p) (dgE tx tn (skp tx tn p) - skp tx tn p) < lo ∨ hi < dvl tx (skp tx tn p) (dgE tx tn (skp tx tn p) - skp tx tn p) then .inl (2, skp tx tn p)
     else .inr (skp tx tn p, dgE tx tn (skp tx tn p), dvl tx (skp tx tn p) (dgE tx tn (skp tx tn p) - skp tx tn p)))
  else .inl (1, skp tx tn p)
/-- a saying that is not in the set -/
def sayR (tx : Nat → Int32) (tn th : Nat) (x : Int32) (p : Nat) : (Nat × Nat) ⊕ (Nat × Nat × Nat) := match numR tx tn 0 (2 * th - 1) p with
  | .inl f => .inl f
  | .inr (a, e, v) => if hasB x (nI v) = true then .inl (4, a) else .inr (a, e, v)
/-- the sayings of a rule: n more may come -/
def pmR (tx : Nat → Int32) (tn th : Nat) (q : Int32) : Nat → Int32 → Nat → (Nat × Nat) ⊕ (Nat × Int32)
  | 0, nd, p => if chr9 tx tn (skp tx tn p) = 44 then .inl (1, skp tx tn p) else .inr (skp tx tn p, nd)
  | n + 1, nd, p => if chr9 tx tn (skp tx tn p) = 44 then (match sayR tx tn th (nd ||| one q) (skp tx tn p + 1) with
      | .inl f => .inl f
      | .inr (_, e, v) => pmR tx tn th q n (nd ||| one (nI v)) e) else .inr (skp tx tn p, nd)
/-- a rule: (behind it, cost, conclusion, sayings) -/
def rulR (tx : Nat → Int32) (tn th p : Nat) : (Nat × Nat) ⊕ (Nat × Nat × Nat × Int32) := match numR tx tn 0 99 p with
  | .inl f => .inl f
  | .inr (_, e, c) => match numR tx tn 0 (2 * th - 1) e with
    | .inl f => .inl f
    | .inr (_, e2, v) => match pmR tx tn th (nI v) 3 0 e2 with
      | .inl f => .inl f
      | .inr (e3, nd) => .inr (e3, c, v, nd)
/-- the mark behind a clause -/
def endR (tx : Nat → Int32) (tn p : Nat) : (Nat × Nat) ⊕ Nat := if chr9 tx tn (skp tx tn p) = 59 then .inr (skp tx tn p + 1) else .inl (1, skp tx tn p)
abbrev Tau : Type := Nat × Nat × Nat × (Nat → Int32) × (Nat → Int32) × (Nat → Int32) × Int32
/-- a clause -/
def claR (tx : Nat → Int32) (tn : Nat) (t : Tau) : (Nat × Nat) ⊕ Tau := match t with
  | (p, th, nr, co, cn, nd, se) =>
    if chr9 tx tn (skp tx tn p) = 116 then
      (if th = 0 then (match numR tx tn 1 8 (skp tx tn p + 1) with
        | .inl f => .inl f
        | .inr (_, e, v) => match endR tx tn e with
          | .inl f => .inl f
          | .inr e2 => .inr (e2, v, nr, co, cn, nd, se)) else .inl (3, skp tx tn p))
    else if th = 0 then .inl (1, skp tx tn p)
    else if chr9 tx tn (skp tx tn p) = 114 then
      (if nr = 10 then .inl (3, skp tx tn p) else (match rulR tx tn th (skp tx tn p + 1) with
        | .inl f => .inl f
        | .inr (e, c, v, x) => match endR tx tn e with
          | .inl f => .inl f
          | .inr e2 => .inr (e2, th, nr + 1, upd co nr (nI c), upd cn nr (nI v), upd nd nr x, se)))
    else if chr9 tx tn (skp tx tn p) = 115 then (match sayR tx tn th se (skp tx tn p + 1) with
        | .inl f => .inl f
        | .inr (_, e, v) => match endR tx tn e with
          | .inl f => .inl f
          | .inr e2 => .inr (e2, th, nr, co, cn, nd, se ||| one (nI v)))
    else .inl (1, skp tx tn p)
/-- the whole text -/
def prF (tx : Nat → Int32) (tn : Nat) : Nat → Tau → (Nat × Nat) ⊕ Tau
  | 0, t => .inr t
  | n + 1, t => if skp tx tn t.1 < tn then (match claR tx tn t with
      | .inl f => .inl f
      | .inr t2 => prF tx tn n t2) else .inr t
/-! the model's memory while it reads -/
def zS (S : Mem) (g a b c : Nat → Int32) : Mem := (mN S, mK S, u1 (mI S) 25 g, mR S, fun p => if p = 31 then a else if p = 32 then b else if p = 33 then c else mA S p, mL S, mQ S)
theorem zS_sI (S : Mem) (g a b c : Nat → Int32) (j : Nat) (v : Int32) : sI (zS S g a b c) 25 j v = zS S (upd g j v) a b c := by
  refine mem_ext rfl rfl ?_ rfl rfl rfl rfl
  funext x z
  show u2 (u1 (mI S) 25 g) 25 j v x z = u1 (mI S) 25 (upd g j v) x z
  unfold u2 u1 upd
  by_cases h : x = 25 <;> simp [h]
theorem zS_self (S : Mem) : zS S (mI S 25) (mA S 31) (mA S 32) (mA S 33) = S := by
  refine mem_ext rfl rfl ?_ rfl ?_ rfl rfl
  · funext x
    show u1 (mI S) 25 (mI S 25) x = mI S x
    unfold u1
    by_cases h : x = 25
    · rw [if_pos h, h]
    · rw [if_neg h]
  · funext x
    show (if x = 31 then mA S 31 else if x = 32 then mA S 32 else if x = 33 then mA S 33 else mA S x) = mA S x
    by_cases h1 : x = 31
    · rw [if_pos h1, h1]
    · by_cases h2 : x = 32
      · rw [if_neg h1, if_pos h2, h2]
      · by_cases h3 : x = 33
        · rw [if_neg h1, if_neg h2, if_pos h3, h3]
        · rw [if_neg h1, if_neg h2, if_neg h3]
theorem zS_31 (S : Mem) (g a b c : Nat → Int32) (j : Nat) (v : Int32) : sA (zS S g a b c) 31 j v = zS S g (upd a j v) b c := by
  refine mem_ext rfl rfl rfl rfl ?_ rfl rfl
  funext x z
  show u2 (mA (zS S g a b c)) 31 j v x z = mA (zS S g (upd a j v) b c) x z
  unfold u2
  by_cases h : x = 31
  · subst h; rfl
  · rw [if_neg h]
    show (if x = 31 then a else if x = 32 then b else if x = 33 then c else mA S x) z = (if x = 31 then upd a j v else if x = 32 then b else if x = 33 then c else mA S x) z
    rw [if_neg h, if_neg h]
theorem zS_32 (S : Mem) (g a b c : Nat → Int32) (j : Nat) (v : Int32) : sA (zS S g a b c) 32 j v = zS S g a (upd b j v) c := by
  refine mem_ext rfl rfl rfl rfl ?_ rfl rfl
  funext x z
  show u2 (mA (zS S g a b c)) 32 j v x z = mA (zS S g a (upd b j v) c) x z
  unfold u2
  by_cases h : x = 32
  · subst h; rfl
  · rw [if_neg h]
    show (if x = 31 then a else if x = 32 then b else if x = 33 then c else mA S x) z = (if x = 31 then a else if x = 32 then upd b j v else if x = 33 then c else mA S x) z
    rw [if_neg h, if_neg h]
theorem zS_33 (S : Mem) (g a b c : Nat → Int32) (j : Nat) (v : Int32) : sA (zS S g a b c) 33 j v = zS S g a b (upd c j v) := by
  refine mem_ext rfl rfl rfl rfl ?_ rfl rfl
  funext x z
  show u2 (mA (zS S g a b c)) 33 j v x z = mA (zS S g a b (upd c j v)) x z
  unfold u2
  by_cases h : x = 33
  · subst h; rfl
  · rw [if_neg h]
    show (if x = 31 then a else if x = 32 then b else if x = 33 then c else mA S x) z = (if x = 31 then a else if x = 32 then b else if x = 33 then upd c j v else mA S x) z
    rw [if_neg h, if_neg h]
/-- a text: letters 0 .. 255 -/
def Tx (tx : Nat → Int32) (tn : Nat) : Prop := tn ≤ 240 ∧ ∀ i, i < tn → ∃ c, c ≤ 255 ∧ tx i = nI c

set_option maxHeartbeats 4000000 in
set_option maxRecDepth 20000 in
theorem lp_X8_here {κ : Kx} {Φ : Option Value → Mem → Prop} (C : Cx RX8 cX8_here 1 (some .int) 0 false Φ κ) (S : Mem) (hR : Rs S) (tn : Nat) (hX : Tx (mA S 30) tn) (g0 a b c : Nat → Int32) (hg8 : g0 8 = nI tn) (r : Nat) (hΦ : Φ (some (.int (chr9 (mA S 30) tn r))) (zS S (upd g0 10 (nI r)) a b c)) : ∀ (n p : Nat), p ≤ tn → tn + 1 ≤ p + n → skp (mA S 30) tn p = r → G κ 0 0 (zS S (upd g0 10 (nI p)) a b c) 0 [.ref 25] [] := by
  have h240 := hX.1
  intro n
  induction n with
  | zero => intro p h1 h2; exact absurd h2 (by omega)
  | succ n ih =>
    intro p hp1 hp2 hr
    have e10 : ∀ z, mI (zS S (upd g0 10 z) a b c) 25 10 = z := fun z => upd_at g0 10 z
    have e8 : ∀ z, mI (zS S (upd g0 10 z) a b c) 25 8 = nI tn := fun z => hg8
    refine g_aload_0 C dX8_here_0 rfl ?_
    refine g_geti C 10 dX8_here_1 rfl rfl rfl fl_X8_87 ?_
    rw [e10]
    refine g_aload_0 C dX8_here_4 rfl ?_
    refine g_geti C 8 dX8_here_5 rfl rfl rfl fl_X8_83 ?_
    rw [e8]
    refine g_icmp_ge (tgt := 38) C dX8_here_8 rfl (by decide) (fun h8 => ?_) (fun h8 => ?_)
    · skip
      refine g_aload_0 C dX8_here_38 rfl ?_
      refine g_geti C 10 dX8_here_39 rfl rfl rfl fl_X8_87 ?_
      rw [e10]
      refine g_aload_0 C dX8_here_42 rfl ?_
      refine g_geti C 8 dX8_here_43 rfl rfl rfl fl_X8_83 ?_
      rw [e8]
      refine g_icmp_ge (tgt := 61) C dX8_here_46 rfl (by decide) (fun h46 => ?_) (fun h46 => absurd h8 h46)
      refine g_iconst (v := -1) C dX8_here_61 rfl (by decide) ?_
      exact g_iret C rfl dX8_here_62 (by have hge : tn ≤ p := n_ge (b := tn) h8 (by omega) (by omega); have e : r = p := hr.symm.trans (skp_0 (by omega)); rw [e] at hΦ; rw [show chr9 (mA S 30) tn p = -1 from if_neg (by omega)] at hΦ; exact hΦ)
    · skip
      refine g_aload_0 C dX8_here_11 rfl ?_
      refine g_getr C 7 dX8_here_12 rfl rfl rfl fl_X8_22 (hR 25 7 30 rfl) ?_
      refine g_aload_0 C dX8_here_15 rfl ?_
      refine g_geti C 10 dX8_here_16 rfl rfl rfl fl_X8_87 ?_
      rw [e10]
      refine g_iald C dX8_here_19 rfl rfl (n_in (show p < 240 by have := n_lt (b := tn) h8 (by omega) (by omega); omega) (by decide)) ?_
      rw [nI_clamp (show p < 2 ^ 31 by omega), show mA (zS S (upd g0 10 (nI p)) a b c) 30 = mA S 30 from rfl]
      refine g_bipush (v := 32) C dX8_here_20 rfl (by decide) ?_
      refine g_icmp_ne (tgt := 38) C dX8_here_22 rfl (by decide) (fun h22 => ?_) (fun h22 => ?_)
      · skip
        refine g_aload_0 C dX8_here_38 rfl ?_
        refine g_geti C 10 dX8_here_39 rfl rfl rfl fl_X8_87 ?_
        rw [e10]
        refine g_aload_0 C dX8_here_42 rfl ?_
        refine g_geti C 8 dX8_here_43 rfl rfl rfl fl_X8_83 ?_
        rw [e8]
        refine g_icmp_ge (tgt := 61) C dX8_here_46 rfl (by decide) (fun h46 => absurd h46 h8) (fun h46 => ?_)
        refine g_aload_0 C dX8_here_49 rfl ?_
        refine g_getr C 7 dX8_here_50 rfl rfl rfl fl_X8_22 (hR 25 7 30 rfl) ?_
        refine g_aload_0 C dX8_here_53 rfl ?_
        refine g_geti C 10 dX8_here_54 rfl rfl rfl fl_X8_87 ?_
        rw [e10]
        refine g_iald C dX8_here_57 rfl rfl (n_in (show p < 240 by have := n_lt (b := tn) h46 (by omega) (by omega); omega) (by decide)) ?_
        rw [nI_clamp (show p < 2 ^ 31 by omega), show mA (zS S (upd g0 10 (nI p)) a b c) 30 = mA S 30 from rfl]
        refine g_goto (tgt := 62) C dX8_here_58 (by decide) ?_
        exact g_iret C rfl dX8_here_62 (by have hlt : p < tn := n_lt (b := tn) h8 (by omega) (by omega); have e : r = p := hr.symm.trans (skp_0 (fun z => h22 z.2)); rw [e] at hΦ; rw [show chr9 (mA S 30) tn p = mA S 30 p from if_pos hlt] at hΦ; exact hΦ)
      · skip
        refine g_aload_0 C dX8_here_25 rfl ?_
        refine g_dup C dX8_here_26 rfl rfl ?_
        refine g_geti C 10 dX8_here_27 rfl rfl rfl fl_X8_87 ?_
        rw [e10]
        refine g_iconst (v := 1) C dX8_here_30 rfl (by decide) ?_
        refine g_iadd C dX8_here_31 rfl ?_
        refine g_puti C 10 dX8_here_32 rfl rfl rfl (Or.inl rfl) fl_X8_87 ?_
        rw [zS_sI, upd_upd, nI_1]
        refine g_goto (tgt := 0) C dX8_here_35 (by decide) ?_
        have hlt : p < tn := n_lt (b := tn) h8 (by omega) (by omega)
        exact ih (p + 1) (by omega) (by omega) (by rw [← hr]; exact (skp_s hlt h22).symm)

set_option maxHeartbeats 4000000 in
set_option maxRecDepth 20000 in
theorem ok_X8_here (S : Mem) (hR : Rs S) (tn : Nat) (hX : Tx (mA S 30) tn) (g a b c : Nat → Int32) (h8 : g 8 = nI tn) (p : Nat) (hp : g 10 = nI p) (hpt : p ≤ tn) : Ok yX8_here cX8_here 1 (some .int) 0 0 0 [.ref 25] (zS S g a b c) (RI (chr9 (mA S 30) tn (skp (mA S 30) tn p)) (zS S (upd g 10 (nI (skp (mA S 30) tn p))) a b c)) := by
  refine Ok.of (by decide) (Nat.le_of_ble_eq_true rfl) rfl (fun κ C hx => ?_)
  have C : Cx RX8 cX8_here 1 (some .int) 0 false _ κ := C
  have h0 := lp_X8_here C S hR tn hX g a b c h8 (skp (mA S 30) tn p) ⟨rfl, rfl⟩ (tn + 1) p hpt (by omega) rfl
  rw [upd_same hp] at h0
  exact h0

def fr4 (g g2 : Nat → Int32) : Prop := ∀ j, j ≠ 9 → j ≠ 10 → j ≠ 11 → j ≠ 12 → g2 j = g j
theorem fr4_s {g g2 : Nat → Int32} (h : fr4 g g2) {i : Nat} (x : Int32) (hi : i = 9 ∨ i = 10 ∨ i = 11 ∨ i = 12) : fr4 g (upd g2 i x) := fun j h1 h2 h3 h4 => by
  rw [upd_ne _ _ (by rcases hi with e | e | e | e <;> rw [e] <;> assumption)]
  exact h j h1 h2 h3 h4
theorem fr4_r (g : Nat → Int32) : fr4 g g := fun _ _ _ _ _ => rfl
def numQ (tx : Nat → Int32) (tn lo hi p : Nat) (g g2 : Nat → Int32) (v : Int32) : Prop := match numR tx tn lo hi p with
  | .inl (k, pl) => v = nI k ∧ g2 9 = nI pl
  | .inr (at9, e, x) => v = 0 ∧ g2 9 = g 9 ∧ g2 10 = nI e ∧ g2 11 = nI x ∧ g2 12 = nI at9
def tnP (S : Mem) (tn lo hi p : Nat) (g a b c : Nat → Int32) : Int32 → Mem → Prop := fun v S2 => ∃ g2, S2 = zS S g2 a b c ∧ fr4 g g2 ∧ numQ (mA S 30) tn lo hi p g g2 v
theorem inI_nn {x lo hi : Nat} (hx : x < 2147483648) (hl : lo < 2147483648) (hh : hi < 2147483648) : inI (nI x) (nI lo) (nI hi) = decide (lo ≤ x ∧ x ≤ hi) := by
  unfold inI
  rw [decide_eq_decide, nI_leI hl hx, nI_leI hx hh]
theorem dvl_lt {tx : Nat → Int32} {tn p : Nat} : ∀ n, (∀ i, i < n → dig tx tn (p + i) = true) → dvl tx p n < 10 ^ n
  | 0, _ => by show 0 < 1; decide
  | n + 1, h => by
    have ih := dvl_lt n (fun i hi => h i (by omega))
    have h9 := (fgN_ok (h n (by omega))).1
    show 10 * dvl tx p n + fgN (tx (p + n)) < 10 ^ (n + 1)
    rw [Nat.pow_succ]
    omega
theorem dvl_999 {tx : Nat → Int32} {tn p n : Nat} (hn : n ≤ 3) (h : ∀ i, i < n → dig tx tn (p + i) = true) : dvl tx p n ≤ 999 := by
  have h1 := dvl_lt n h
  have h2 : 10 ^ n ≤ 10 ^ 3 := Nat.pow_le_pow_right (by decide) hn
  omega
theorem dig_all {tx : Nat → Int32} {tn : Nat} : ∀ n p, dig tx tn p = true → ∀ i, p + i < dgF tx tn n p → dig tx tn (p + i) = true
  | 0, p, _, i, h => absurd h (by show ¬ p + i < p; omega)
  | n + 1, p, hd, i, h => by
    rw [show dgF tx tn (n + 1) p = dgF tx tn n (p + 1) from if_pos hd] at h
    cases i with
    | zero => exact hd
    | succ i =>
      by_cases h1 : dig tx tn (p + 1) = true
      · rw [show p + (i + 1) = p + 1 + i by omega] at h ⊢
        exact dig_all n (p + 1) h1 i h
      · exfalso
        cases n with
        | zero =>
          have h : p + (i + 1) < p + 1 := h
          omega
        | succ n =>
          rw [show dgF tx tn (n + 1) (p + 1) = p + 1 from if_neg h1] at h
          omega
theorem dig_run {tx : Nat → Int32} {tn p : Nat} (hd : dig tx tn p = true) : ∀ i, i < dgE tx tn p - p → dig tx tn (p + i) = true := fun i hi => dig_all (tn - p) p hd i (by unfold dgE at hi; omega)
theorem inL_dig {x : Int32} : inL x.toInt64 48 57 = inI x 48 57 := inL_32 x 48 57
set_option maxHeartbeats 4000000 in
set_option maxRecDepth 20000 in
theorem lp_X8_takeNumber {κ : Kx} {Φ : Option Value → Mem → Prop} (C : Cx RX8 cX8_takeNumber 4 (some .int) 1 false Φ κ) (S : Mem) (hR : Rs S) (tn : Nat) (hX : Tx (mA S 30) tn) (g0 a b c : Nat → Int32) (lo hi c9 : Int32) (p0 : Nat) (K : ∀ g2 : Nat → Int32, g2 8 = nI tn → g2 10 = nI (dgE (mA S 30) tn p0) → g2 12 = nI p0 → (dgE (mA S 30) tn p0 - p0 ≤ 3 → g2 11 = nI (dvl (mA S 30) p0 (dgE (mA S 30) tn p0 - p0))) → fr4 g0 g2 → g2 9 = g0 9 → G κ 0 0 (zS S g2 a b c) 129 [.ref 25, .int lo, .int hi, .int c9] []) : ∀ (n p : Nat) (g : Nat → Int32), p0 ≤ p → p ≤ tn → tn + 1 ≤ p + n → (∀ i, i < p - p0 → dig (mA S 30) tn (p0 + i) = true) → dgE (mA S 30) tn p = dgE (mA S 30) tn p0 → g 8 = nI tn → g 10 = nI p → g 12 = nI p0 → (p - p0 ≤ 3 → g 11 = nI (dvl (mA S 30) p0 (p - p0))) → fr4 g0 g → g 9 = g0 9 → G κ 0 0 (zS S g a b c) 42 [.ref 25, .int lo, .int hi, .int c9] [] := by
  have h240 := hX.1
  intro n
  induction n with
  | zero => intro p g h0 h1 h2; exact absurd h2 (by omega)
  | succ n ih =>
    intro p g hp0 hp1 hp2 hall hE h8 h10 h12 h11 hf hg9
    have e8 : mI (zS S g a b c) 25 8 = nI tn := h8
    have e10 : mI (zS S g a b c) 25 10 = nI p := h10
    have eA : mA (zS S g a b c) 30 = mA S 30 := rfl
    refine g_aload_0 C dX8_takeNumber_42 rfl ?_
    refine g_geti C 10 dX8_takeNumber_43 rfl rfl rfl fl_X8_87 ?_
    rw [e10]
    refine g_aload_0 C dX8_takeNumber_46 rfl ?_
    refine g_geti C 8 dX8_takeNumber_47 rfl rfl rfl fl_X8_83 ?_
    rw [e8]
    refine g_icmp_ge (tgt := 129) C dX8_takeNumber_50 rfl (by decide) (fun h50 => ?_) (fun h50 => ?_)
    · skip
      have hge : tn ≤ p := n_ge (b := tn) h50 (by omega) (by omega)
      have hdp : dig (mA S 30) tn p = false := by unfold dig; rw [decide_eq_false (by omega)]; rfl
      have eE : dgE (mA S 30) tn p0 = p := by rw [← hE]; exact dgE_0 hdp
      exact K g h8 (by rw [eE]; exact h10) h12 (by rw [eE]; exact h11) hf hg9
    · skip
      refine g_aload_0 C dX8_takeNumber_53 rfl ?_
      have hlt : p < tn := n_lt (b := tn) h50 (by omega) (by omega)
      refine g_getr C 7 dX8_takeNumber_54 rfl rfl rfl fl_X8_22 (hR 25 7 30 rfl) ?_
      refine g_aload_0 C dX8_takeNumber_57 rfl ?_
      refine g_geti C 10 dX8_takeNumber_58 rfl rfl rfl fl_X8_87 ?_
      rw [e10]
      refine g_iald C dX8_takeNumber_61 rfl rfl (n_in (show p < 240 by omega) (by decide)) ?_
      rw [nI_clamp (show p < 2 ^ 31 by omega), eA]
      refine g_i2l C dX8_takeNumber_62 rfl ?_
      refine g_ldc2 C dX8_takeNumber_63 rfl kl_X8_94 ?_
      refine g_ldc2 C dX8_takeNumber_66 rfl kl_X8_96 ?_
      refine g_cS3i C dX8_takeNumber_69 rfl ml_X8_73 mz_X8_in (ok_X8_in _ _ _ _) (by decide) rfl rfl (Nat.le_of_ble_eq_true rfl) (fun hn69 => ?_)
      rw [inL_dig]
      refine g_if_eq (tgt := 129) C dX8_takeNumber_72 rfl (by decide) (fun h72 => ?_) (fun h72 => ?_)
      · skip
        have hdp : dig (mA S 30) tn p = false := by unfold dig; rw [decide_eq_true hlt, (bI_0 _).mp h72]; rfl
        have eE : dgE (mA S 30) tn p0 = p := by rw [← hE]; exact dgE_0 hdp
        exact K g h8 (by rw [eE]; exact h10) h12 (by rw [eE]; exact h11) hf hg9
      · skip
        refine g_aload_0 C dX8_takeNumber_75 rfl ?_
        refine g_aload_0 C dX8_takeNumber_76 rfl ?_
        refine g_geti C 11 dX8_takeNumber_77 rfl rfl rfl fl_X8_105 ?_
        rw [show mI (zS S g a b c) 25 11 = g 11 from rfl]
        have hdp : dig (mA S 30) tn p = true := by unfold dig; rw [decide_eq_true hlt]; exact nf_t (fun q => h72 ((bI_0 _).mpr q))
        refine g_sipush (v := 10000) C dX8_takeNumber_80 rfl (by decide) ?_
        refine g_icmp_le (tgt := 93) C dX8_takeNumber_83 rfl (by decide) (fun h83 => ?_) (fun h83 => ?_)
        · skip
          refine g_bipush (v := 10) C dX8_takeNumber_93 rfl (by decide) ?_
          refine g_aload_0 C dX8_takeNumber_95 rfl ?_
          refine g_geti C 11 dX8_takeNumber_96 rfl rfl rfl fl_X8_105 ?_
          rw [show mI (zS S g a b c) 25 11 = g 11 from rfl]
          refine g_imul C dX8_takeNumber_99 rfl ?_
          refine g_aload_0 C dX8_takeNumber_100 rfl ?_
          refine g_getr C 7 dX8_takeNumber_101 rfl rfl rfl fl_X8_22 (hR 25 7 30 rfl) ?_
          refine g_aload_0 C dX8_takeNumber_104 rfl ?_
          refine g_geti C 10 dX8_takeNumber_105 rfl rfl rfl fl_X8_87 ?_
          rw [e10]
          refine g_iald C dX8_takeNumber_108 rfl rfl (n_in (show p < 240 by omega) (by decide)) ?_
          rw [nI_clamp (show p < 2 ^ 31 by omega), eA]
          refine g_iadd C dX8_takeNumber_109 rfl ?_
          refine g_bipush (v := 48) C dX8_takeNumber_110 rfl (by decide) ?_
          refine g_isub C dX8_takeNumber_112 rfl ?_
          refine g_puti C 11 dX8_takeNumber_113 rfl rfl rfl (Or.inl rfl) fl_X8_105 ?_
          rw [zS_sI]
          refine g_aload_0 C dX8_takeNumber_116 rfl ?_
          refine g_dup C dX8_takeNumber_117 rfl rfl ?_
          refine g_geti C 10 dX8_takeNumber_118 rfl rfl rfl fl_X8_87 ?_
          rw [show ∀ z, mI (zS S (upd g 11 z) a b c) 25 10 = nI p from fun z => h10]
          refine g_iconst (v := 1) C dX8_takeNumber_121 rfl (by decide) ?_
          refine g_iadd C dX8_takeNumber_122 rfl ?_
          refine g_puti C 10 dX8_takeNumber_123 rfl rfl rfl (Or.inl rfl) fl_X8_87 ?_
          rw [zS_sI, nI_1]
          refine g_goto (tgt := 42) C dX8_takeNumber_126 (by decide) ?_
          refine ih (p + 1) _ (by omega) (by omega) (by omega) (fun i hi => ?_) (by rw [← hE]; exact (dgE_s hdp).symm) h8 (upd_at _ _ _) h12 (fun h3 => ?_) (fr4_s (fr4_s hf _ (Or.inr (Or.inr (Or.inl rfl)))) _ (Or.inr (Or.inl rfl))) hg9
          · by_cases hi2 : i < p - p0
            · exact hall i hi2
            · rw [show p0 + i = p by omega]; exact hdp
          · show _ = nI (dvl (mA S 30) p0 (p + 1 - p0))
            rw [show p + 1 - p0 = (p - p0) + 1 by omega]
            show 10 * g 11 + mA S 30 p - 48 = nI (10 * dvl (mA S 30) p0 (p - p0) + fgN (mA S 30 (p0 + (p - p0))))
            rw [show p0 + (p - p0) = p by omega, h11 (by omega)]
            obtain ⟨-, e9⟩ := fgN_ok hdp
            generalize fgN (mA S 30 p) = q9 at e9 ⊢
            rw [e9, show (10 : Int32) * nI (dvl (mA S 30) p0 (p - p0)) = nI (10 * dvl (mA S 30) p0 (p - p0)) from pk_mul 10 _, nI_add, show (48 : Int32) = nI 48 from rfl, pk_sub (by omega)]
            congr 1
        · skip
          refine g_aload_0 C dX8_takeNumber_86 rfl ?_
          refine g_geti C 11 dX8_takeNumber_87 rfl rfl rfl fl_X8_105 ?_
          rw [show mI (zS S g a b c) 25 11 = g 11 from rfl]
          refine g_goto (tgt := 113) C dX8_takeNumber_90 (by decide) ?_
          refine g_puti C 11 dX8_takeNumber_113 rfl rfl rfl (Or.inl rfl) fl_X8_105 ?_
          rw [zS_sI]
          refine g_aload_0 C dX8_takeNumber_116 rfl ?_
          refine g_dup C dX8_takeNumber_117 rfl rfl ?_
          refine g_geti C 10 dX8_takeNumber_118 rfl rfl rfl fl_X8_87 ?_
          rw [show ∀ z, mI (zS S (upd g 11 z) a b c) 25 10 = nI p from fun z => h10]
          refine g_iconst (v := 1) C dX8_takeNumber_121 rfl (by decide) ?_
          refine g_iadd C dX8_takeNumber_122 rfl ?_
          refine g_puti C 10 dX8_takeNumber_123 rfl rfl rfl (Or.inl rfl) fl_X8_87 ?_
          rw [zS_sI, nI_1]
          refine g_goto (tgt := 42) C dX8_takeNumber_126 (by decide) ?_
          refine ih (p + 1) _ (by omega) (by omega) (by omega) (fun i hi => ?_) (by rw [← hE]; exact (dgE_s hdp).symm) h8 (upd_at _ _ _) h12 (fun h3 => ?_) (fr4_s (fr4_s hf _ (Or.inr (Or.inr (Or.inl rfl)))) _ (Or.inr (Or.inl rfl))) hg9
          · by_cases hi2 : i < p - p0
            · exact hall i hi2
            · rw [show p0 + i = p by omega]; exact hdp
          · exfalso
            have e11 := h11 (by omega)
            rw [e11] at h83
            have h9 := dvl_999 (n := p - p0) (by omega) hall
            exact h83 (nI_le (b := 10000) (by omega) (by decide))

set_option maxHeartbeats 4000000 in
set_option maxRecDepth 20000 in
theorem ok_X8_takeNumber (lo hi : Nat) (hlo : lo ≤ 999) (hhi : hi ≤ 999) (S : Mem) (hR : Rs S) (tn : Nat) (hX : Tx (mA S 30) tn) (g a b c : Nat → Int32) (h8 : g 8 = nI tn) (p : Nat) (hp : g 10 = nI p) (hpt : p ≤ tn) : Ok yX8_takeNumber cX8_takeNumber 4 (some .int) 1 0 0 [.ref 25, .int (nI lo), .int (nI hi)] (zS S g a b c) (RX (tnP S tn lo hi p g a b c)) := by
  have h240 := hX.1
  have hq := skp_le (tx := mA S 30) hpt
  generalize hqe : skp (mA S 30) tn p = q at hq
  refine Ok.of (by decide) (Nat.le_of_ble_eq_true rfl) rfl (fun κ C hx => ?_)
  have C : Cx RX8 cX8_takeNumber 4 (some .int) 1 false _ κ := C
  refine g_aload_0 C dX8_takeNumber_0 rfl ?_
  refine g_cV0i C dX8_takeNumber_1 rfl ml_X8_90 mz_X8_here (ok_X8_here S hR tn hX g a b c h8 p hp hpt) (by decide) rfl rfl rfl rfl (Nat.le_of_ble_eq_true rfl) (fun hn1 => ?_)
  rw [hqe]
  refine g_istore_3 C rfl dX8_takeNumber_4 rfl ?_
  refine g_iload_3 C dX8_takeNumber_5 rfl ?_
  refine g_i2l C dX8_takeNumber_6 rfl ?_
  refine g_ldc2 C dX8_takeNumber_7 rfl kl_X8_94 ?_
  refine g_ldc2 C dX8_takeNumber_10 rfl kl_X8_96 ?_
  refine g_cS3i C dX8_takeNumber_13 rfl ml_X8_73 mz_X8_in (ok_X8_in _ _ _ _) (by decide) rfl rfl (Nat.le_of_ble_eq_true rfl) (fun hn13 => ?_)
  rw [inL_dig]
  refine g_if_ne (tgt := 29) C dX8_takeNumber_16 rfl (by decide) (fun h16 => ?_) (fun h16 => ?_)
  · skip
    refine g_aload_0 C dX8_takeNumber_29 rfl ?_
    refine g_aload_0 C dX8_takeNumber_30 rfl ?_
    refine g_geti C 10 dX8_takeNumber_31 rfl rfl rfl fl_X8_87 ?_
    rw [show mI (zS S (upd g 10 (nI q)) a b c) 25 10 = nI q from upd_at g 10 (nI q)]
    refine g_puti C 12 dX8_takeNumber_34 rfl rfl rfl (Or.inl rfl) fl_X8_102 ?_
    rw [zS_sI]
    refine g_aload_0 C dX8_takeNumber_37 rfl ?_
    refine g_iconst (v := 0) C dX8_takeNumber_38 rfl (by decide) ?_
    refine g_puti C 11 dX8_takeNumber_39 rfl rfl rfl (Or.inl rfl) fl_X8_105 ?_
    rw [zS_sI]
    have hdg : dig (mA S 30) tn q = true := by
      have h1 := nf_t (fun z => h16 ((bI_0 _).mpr z))
      unfold dig
      by_cases hl : q < tn
      · rw [show chr9 (mA S 30) tn q = mA S 30 q from if_pos hl] at h1
        rw [h1, decide_eq_true hl]; rfl
      · rw [show chr9 (mA S 30) tn q = -1 from if_neg hl] at h1
        exact absurd h1 (by decide)
    have hE := dgE_lt hdg
    have hE2 := (dgE_le (tx := mA S 30) (tn := tn) (p := q) hq.2).2
    refine lp_X8_takeNumber C S hR tn hX g a b c (nI lo) (nI hi) _ q (fun g2 k8 k10 k12 k11 kf k9 => ?_) (tn + 1) q _ (Nat.le_refl q) hq.2 (by omega) (fun i hi => absurd hi (by omega)) rfl h8 rfl rfl (fun _ => by rw [Nat.sub_self]; exact upd_at _ _ _) (fr4_s (fr4_s (fr4_s (fr4_r g) _ (Or.inr (Or.inl rfl))) _ (Or.inr (Or.inr (Or.inr rfl)))) _ (Or.inr (Or.inr (Or.inl rfl)))) rfl
    generalize hEe : dgE (mA S 30) tn q = e at hE hE2 k10 k11
    refine g_aload_0 C dX8_takeNumber_129 rfl ?_
    refine g_geti C 10 dX8_takeNumber_130 rfl rfl rfl fl_X8_87 ?_
    rw [show mI (zS S g2 a b c) 25 10 = nI e from k10]
    refine g_aload_0 C dX8_takeNumber_133 rfl ?_
    refine g_geti C 12 dX8_takeNumber_134 rfl rfl rfl fl_X8_102 ?_
    rw [show mI (zS S g2 a b c) 25 12 = nI q from k12]
    refine g_isub C dX8_takeNumber_137 rfl ?_
    rw [pk_sub (show q ≤ e by omega)]
    refine g_iconst (v := 3) C dX8_takeNumber_138 rfl (by decide) ?_
    refine g_icmp_gt (tgt := 157) C dX8_takeNumber_139 rfl (by decide) (fun h139 => ?_) (fun h139 => ?_)
    · skip
      refine g_aload_0 C dX8_takeNumber_157 rfl ?_
      refine g_iconst (v := 2) C dX8_takeNumber_158 rfl (by decide) ?_
      refine g_aload_0 C dX8_takeNumber_159 rfl ?_
      refine g_geti C 12 dX8_takeNumber_160 rfl rfl rfl fl_X8_102 ?_
      rw [show mI (zS S g2 a b c) 25 12 = nI q from k12]
      refine g_cV2i C dX8_takeNumber_163 rfl ml_X8_98 mz_X8_fails (ok_X8_fails _ _ _) (by decide) rfl rfl rfl rfl (Nat.le_of_ble_eq_true rfl) (fun hn163 => ?_)
      rw [zS_sI]
      refine g_goto (tgt := 170) C dX8_takeNumber_166 (by decide) ?_
      exact g_iret C rfl dX8_takeNumber_170 ⟨2, rfl, _, rfl, fr4_s kf _ (Or.inl rfl), by
        have h3 : 3 < e - q := n_lt' (a := 3) (b := e - q) h139 (by decide) (by omega)
        unfold numQ numR
        rw [hqe, if_pos hdg, hEe, if_pos (Or.inl h3)]
        exact ⟨rfl, upd_at _ _ _⟩⟩
    · skip
      refine g_aload_0 C dX8_takeNumber_142 rfl ?_
      refine g_geti C 11 dX8_takeNumber_143 rfl rfl rfl fl_X8_105 ?_
      have h3 : e - q ≤ 3 := n_nlt (a := 3) (b := e - q) h139 (by decide) (by omega)
      have h9 := dvl_999 (tx := mA S 30) (tn := tn) (p := q) h3 (fun i hi => dig_run hdg i (by rw [hEe]; exact hi))
      rw [show mI (zS S g2 a b c) 25 11 = nI (dvl (mA S 30) q (e - q)) from k11 h3]
      refine g_i2l C dX8_takeNumber_146 rfl ?_
      refine g_iload_1 C dX8_takeNumber_147 rfl ?_
      refine g_i2l C dX8_takeNumber_148 rfl ?_
      refine g_iload_2 C dX8_takeNumber_149 rfl ?_
      refine g_i2l C dX8_takeNumber_150 rfl ?_
      refine g_cS3i C dX8_takeNumber_151 rfl ml_X8_73 mz_X8_in (ok_X8_in _ _ _ _) (by decide) rfl rfl (Nat.le_of_ble_eq_true rfl) (fun hn151 => ?_)
      rw [inL_32, inI_nn (by omega) (by omega) (by omega)]
      refine g_if_ne (tgt := 169) C dX8_takeNumber_154 rfl (by decide) (fun h154 => ?_) (fun h154 => ?_)
      · skip
        refine g_iconst (v := 0) C dX8_takeNumber_169 rfl (by decide) ?_
        exact g_iret C rfl dX8_takeNumber_170 ⟨0, rfl, g2, rfl, kf, by
        have hb := of_decide_eq_true (nf_t (fun z => h154 ((bI_0 _).mpr z)))
        unfold numQ numR
        rw [hqe, if_pos hdg, hEe, if_neg (by omega)]
        exact ⟨rfl, k9, k10, k11 h3, k12⟩⟩
      · skip
        refine g_aload_0 C dX8_takeNumber_157 rfl ?_
        refine g_iconst (v := 2) C dX8_takeNumber_158 rfl (by decide) ?_
        refine g_aload_0 C dX8_takeNumber_159 rfl ?_
        refine g_geti C 12 dX8_takeNumber_160 rfl rfl rfl fl_X8_102 ?_
        rw [show mI (zS S g2 a b c) 25 12 = nI q from k12]
        refine g_cV2i C dX8_takeNumber_163 rfl ml_X8_98 mz_X8_fails (ok_X8_fails _ _ _) (by decide) rfl rfl rfl rfl (Nat.le_of_ble_eq_true rfl) (fun hn163 => ?_)
        rw [zS_sI]
        refine g_goto (tgt := 170) C dX8_takeNumber_166 (by decide) ?_
        exact g_iret C rfl dX8_takeNumber_170 ⟨2, rfl, _, rfl, fr4_s kf _ (Or.inl rfl), by
        have hb := of_decide_eq_false ((bI_0 _).mp h154)
        unfold numQ numR
        rw [hqe, if_pos hdg, hEe, if_pos (by omega)]
        exact ⟨rfl, upd_at _ _ _⟩⟩
  · skip
    refine g_aload_0 C dX8_takeNumber_19 rfl ?_
    refine g_iconst (v := 1) C dX8_takeNumber_20 rfl (by decide) ?_
    refine g_aload_0 C dX8_takeNumber_21 rfl ?_
    refine g_geti C 10 dX8_takeNumber_22 rfl rfl rfl fl_X8_87 ?_
    rw [show mI (zS S (upd g 10 (nI q)) a b c) 25 10 = nI q from upd_at g 10 (nI q)]
    refine g_cV2i C dX8_takeNumber_25 rfl ml_X8_98 mz_X8_fails (ok_X8_fails _ _ _) (by decide) rfl rfl rfl rfl (Nat.le_of_ble_eq_true rfl) (fun hn25 => ?_)
    rw [zS_sI]
    exact g_iret C rfl dX8_takeNumber_28 ⟨1, rfl, _, rfl, fr4_s (fr4_s (fr4_r g) _ (Or.inr (Or.inl rfl))) _ (Or.inl rfl), by
      have hdg : dig (mA S 30) tn q = false := by
        unfold dig
        by_cases hl : q < tn
        · rw [show chr9 (mA S 30) tn q = mA S 30 q from if_pos hl] at h16
          rw [(bI_0 _).mp h16, Bool.and_false]
        · rw [decide_eq_false hl]; rfl
      unfold numQ numR
      rw [hqe, if_neg (by rw [hdg]; decide)]
      exact ⟨rfl, upd_at _ _ _⟩⟩

