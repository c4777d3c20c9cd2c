/-! calls of methods with one answer, ends of such; switches; a value by another name -/
def gM (r : Option Value) (w : va_W) : Option Value → va_W → Prop := fun v w1 => v = r ∧ w1 = w
theorem putAll_self : ∀ (is : List Nat) (ws wc : va_W), is.map (fun i => ws[i]?) = wc.map some → putAll ws is wc = ws
  | [], ws, wc, h => by
    cases wc with
    | nil => simp [putAll]
    | cons _ _ => simp at h
  | i :: is, ws, [], h => by simp at h
  | i :: is, ws, c :: wc, h => by
    simp only [List.map_cons, List.cons.injEq] at h
    have e : ws.set i c = ws := by
      obtain ⟨hi, he⟩ := List.getElem?_eq_some_iff.mp h.1
      rw [← he]
      exact List.set_getElem_self hi
    simp only [putAll, e]
    exact putAll_self is ws wc h.2
theorem g_self {α : Type} (l : List α) : l = l ++ l.drop l.length := by simp
section rows
variable {g : gD} {x : gX} {own : String} {cc : ByteArray} {nL fr ce sl lo : Nat} {ws wc : va_W} {k n : Nat} {lv : List (Nat × Value)} {pc : Nat} {st : List Value}
theorem g_callVp (C : gC g x own cc nL fr ce sl lo) {y : MethodName} {cy : ByteArray} {mL n' fr' lo' ix b ci N : Nat} {ret : Option FieldType} {T : u_T} {fs : List Value} {r : Value} (As rest : List Value) (hM : gMet x.1.2.1 g y cy mL ret fr' 0 0 lo' (.ref b :: As) wc (gM (some r) wc)) (hY : gYv y cy mL ret n') (hl : Cond.methodLink own ix y ∈ wAll) (isC : List Nat) (hC : isC.map (fun i => ws[i]?) = wc.map some) (hnd : va_nd isC = true) (q0 : Nat) (he : ws[q0]? = some (b, .inr (ci, fs))) (hcl : vwCl[ci]? = some (y.cls, T, N)) (hst : st = As.reverse ++ .ref b :: rest) (hcat : (rest.map fun v => v.category).sum ≤ 8) (hn : As.length = n') (hroom : fr' + 1 ≤ fr ∧ 8 + (mL + 11) + lo' ≤ lo ∧ k ≤ ce ∧ n ≤ sl) (hd : decode cc pc = .ok (.invokevirtual ix, 3))
    (kk : gW g x ws k n lv (pc + 3) (r :: rest)) : gW g x ws k n lv pc st := by
  refine g_callV C As rest hM hY hl isC hC hnd q0 he hcl hst hcat hn hroom hd (fun v w1 hp => ?_)
  obtain ⟨rfl, rfl⟩ := hp
  rw [putAll_self isC ws _ hC]
  exact kk
theorem g_callSp (C : gC g x own cc nL fr ce sl lo) {y : MethodName} {cy : ByteArray} {mL n' fr' lo' ix : Nat} {ret : Option FieldType} {r : Value} (As rest : List Value) (hM : gMet x.1.2.1 g y cy mL ret fr' 0 0 lo' As wc (gM (some r) wc)) (hY : gYs y cy mL ret n') (hl : Cond.methodLink own ix y ∈ wAll) (isC : List Nat) (hC : isC.map (fun i => ws[i]?) = wc.map some) (hnd : va_nd isC = true) (hst : st = As.reverse ++ rest) (hcat : (rest.map fun v => v.category).sum ≤ 8) (hn : As.length = n') (hroom : fr' + 1 ≤ fr ∧ 8 + (mL + 11) + lo' ≤ lo ∧ k ≤ ce ∧ n ≤ sl) (hd : decode cc pc = .ok (.invokestatic ix, 3))
    (kk : gW g x ws k n lv (pc + 3) (r :: rest)) : gW g x ws k n lv pc st := by
  refine g_callS C As rest hM hY hl isC hC hnd hst hcat hn hroom hd (fun v w1 hp => ?_)
  obtain ⟨rfl, rfl⟩ := hp
  rw [putAll_self isC ws _ hC]
  exact kk
theorem g_callSNp (C : gC g x own cc nL fr ce sl lo) {y : MethodName} {cy : ByteArray} {mL n' fr' lo' ix : Nat} {host : String} {ret : Option FieldType} {r : Value} (As rest : List Value) (hM : gMet x.1.2.1 g y cy mL ret fr' 0 0 lo' As wc (gM (some r) wc)) (hY : gYs y cy mL ret n') (hl : Cond.methodLinkNest own ix y host ∈ wNest) (isC : List Nat) (hC : isC.map (fun i => ws[i]?) = wc.map some) (hnd : va_nd isC = true) (hst : st = As.reverse ++ rest) (hcat : (rest.map fun v => v.category).sum ≤ 8) (hn : As.length = n') (hroom : fr' + 1 ≤ fr ∧ 8 + (mL + 11) + lo' ≤ lo ∧ k ≤ ce ∧ n ≤ sl) (hd : decode cc pc = .ok (.invokestatic ix, 3))
    (kk : gW g x ws k n lv (pc + 3) (r :: rest)) : gW g x ws k n lv pc st := by
  refine g_callSN C As rest hM hY hl isC hC hnd hst hcat hn hroom hd (fun v w1 hp => ?_)
  obtain ⟨rfl, rfl⟩ := hp
  rw [putAll_self isC ws _ hC]
  exact kk
theorem g_iretM (C : gC g x own cc nL fr ce sl lo) {ws0 w : va_W} {r z : Int} (hR : gR g x (some .int) k n ws0 (gM (some (vi r)) w)) (hd : decode cc pc = .ok (.ireturn, 1)) (hz : z = r) (hw : ws = w) (ha : w.map Prod.fst = ws0.map Prod.fst) : gW g x ws k n lv pc [vi z] := by
  subst hz; subst hw
  exact g_iret C hR hd ⟨rfl, rfl⟩ (by rw [← ha]; have e : ws0.length = ws.length := by have := congrArg List.length ha; simpa using this.symm
                                      rw [e]; simp)
theorem g_zretM (C : gC g x own cc nL fr ce sl lo) {ws0 w : va_W} {r z : Int} (hR : gR g x (some .boolean) k n ws0 (gM (some (vi r)) w)) (hd : decode cc pc = .ok (.ireturn, 1)) (h01 : z = 0 ∨ z = 1) (hz : z = r) (hw : ws = w) (ha : w.map Prod.fst = ws0.map Prod.fst) : gW g x ws k n lv pc [vi z] := by
  subst hz; subst hw
  exact g_zret C hR hd h01 ⟨rfl, rfl⟩ (by rw [← ha]; have e : ws0.length = ws.length := by have := congrArg List.length ha; simpa using this.symm
                                          rw [e]; simp)
theorem g_lretM (C : gC g x own cc nL fr ce sl lo) {ws0 w : va_W} {r z : Int} (hR : gR g x (some .long) k n ws0 (gM (some (vl r)) w)) (hd : decode cc pc = .ok (.lreturn, 1)) (hz : z = r) (hw : ws = w) (ha : w.map Prod.fst = ws0.map Prod.fst) : gW g x ws k n lv pc [vl z] := by
  subst hz; subst hw
  exact g_lret C hR hd ⟨rfl, rfl⟩ (by rw [← ha]; have e : ws0.length = ws.length := by have := congrArg List.length ha; simpa using this.symm
                                      rw [e]; simp)
theorem g_vretM (C : gC g x own cc nL fr ce sl lo) {ws0 w : va_W} (hR : gR g x none k n ws0 (gM none w)) (hd : decode cc pc = .ok (.return_, 1)) (hw : ws = w) (ha : w.map Prod.fst = ws0.map Prod.fst) : gW g x ws k n lv pc [] := by
  subst hw
  exact g_vret C hR hd ⟨rfl, rfl⟩ (by rw [← ha]; have e : ws0.length = ws.length := by have := congrArg List.length ha; simpa using this.symm
                                      rw [e]; simp)
theorem g_tin (C : gC g x own cc nL fr ce sl lo) {z dflt lw hi : Int} {offs : Array Int} {len : Nat} {off : Int} (tgt : Nat) (hd : decode cc pc = .ok (.tableswitch dflt lw hi offs, len)) (v : Int) (hz : z = v) (hv : -2147483648 ≤ v ∧ v < 2147483648 ∧ lw ≤ v ∧ v ≤ hi) (ho : offs[(v - lw).toNat]? = some off) (ht : (pc : Int) + off = (tgt : Int)) (kk : gW g x ws k n lv tgt st) : gW g x ws k n lv pc (vi z :: st) := by
  obtain ⟨⟨p, l, e, R, s, m, args, below, meth, c⟩, A, H0, nL', Q⟩ := x
  intro H locs ls hP hD hS hl
  subst hz
  have e9 := iI_t (z := z) (by omega)
  exact lv_tableIn C.1 C.2.1 hd (by rw [e9]; omega) (by rw [e9]; omega) (by rw [e9]; exact ho) ht (kk H locs ls hP hD hS hl)
theorem g_tout (C : gC g x own cc nL fr ce sl lo) {z dflt lw hi : Int} {offs : Array Int} {len : Nat} (tgt : Nat) (hd : decode cc pc = .ok (.tableswitch dflt lw hi offs, len)) (hz : -2147483648 ≤ z ∧ z < 2147483648) (hv : z < lw ∨ hi < z) (ht : (pc : Int) + dflt = (tgt : Int)) (kk : gW g x ws k n lv tgt st) : gW g x ws k n lv pc (vi z :: st) := by
  obtain ⟨⟨p, l, e, R, s, m, args, below, meth, c⟩, A, H0, nL', Q⟩ := x
  intro H locs ls hP hD hS hl
  have e9 := iI_t hz
  exact lv_tableOut C.1 C.2.1 hd (by rw [e9]; exact hv) ht (kk H locs ls hP hD hS hl)
theorem g_val {z w : Int} (hz : z = w) (kk : gW g x ws k n lv pc (vi w :: st)) : gW g x ws k n lv pc (vi z :: st) := by
  subst hz; exact kk
theorem g_vall {z w : Int} (hz : z = w) (kk : gW g x ws k n lv pc (vl w :: st)) : gW g x ws k n lv pc (vl z :: st) := by
  subst hz; exact kk
end rows
/-! sums -/
def sN (F : Int → Int) : Nat → Int
  | 0 => 0
  | n + 1 => sN F n + F n
def sm (F : Int → Int) (n : Int) : Int := sN F n.toNat
theorem sm_0 (F : Int → Int) : sm F 0 = 0 := rfl
theorem sm_s (F : Int → Int) {i : Int} (h : 0 ≤ i) : sm F (i + 1) = sm F i + F i := by
  obtain ⟨k, rfl⟩ : ∃ k : Nat, i = k := ⟨i.toNat, by omega⟩
  have e : ((k : Int) + 1).toNat = k + 1 := by omega
  have e2 : (k : Int).toNat = k := by omega
  simp only [sm, e, e2, sN]
theorem sm_ind {P : Int → Prop} (h0 : P 0) (hs : ∀ i, 0 ≤ i → P i → P (i + 1)) : ∀ n, 0 ≤ n → P n := by
  intro n hn
  obtain ⟨k, rfl⟩ : ∃ k : Nat, n = k := ⟨n.toNat, by omega⟩
  induction k with
  | zero => exact h0
  | succ k ih => exact hs k (by omega) (ih (by omega))
theorem sm_congr {F G : Int → Int} {n : Int} (hn : 0 ≤ n) (h : ∀ i, 0 ≤ i → i < n → F i = G i) : sm F n = sm G n := by
  have := sm_ind (P := fun m => m ≤ n → sm F m = sm G m) (fun _ => rfl) (fun i hi ih hm => by rw [sm_s F hi, sm_s G hi, ih (by omega), h i hi (by omega)]) n hn
  exact this (Int.le_refl _)
theorem sm_bound {F : Int → Int} {lo hi n : Int} (hn : 0 ≤ n) (h : ∀ i, 0 ≤ i → i < n → lo ≤ F i ∧ F i ≤ hi) : n * lo ≤ sm F n ∧ sm F n ≤ n * hi := by
  have := sm_ind (P := fun m => m ≤ n → m * lo ≤ sm F m ∧ sm F m ≤ m * hi) (fun _ => by simp [sm_0]) (fun i hi' ih hm => by
    have h1 := h i hi' (by omega)
    have h2 := ih (by omega)
    rw [sm_s F hi', Int.add_mul, Int.add_mul]
    omega) n hn
  exact this (Int.le_refl _)
theorem sm_add (F G : Int → Int) {n : Int} (hn : 0 ≤ n) : sm (fun i => F i + G i) n = sm F n + sm G n :=
  sm_ind (P := fun m => sm (fun i => F i + G i) m = sm F m + sm G m) rfl (fun i hi ih => by rw [sm_s _ hi, sm_s _ hi, sm_s _ hi, ih]; omega) n hn
theorem sm_const0 {n : Int} (hn : 0 ≤ n) : sm (fun _ => 0) n = 0 :=
  sm_ind (P := fun m => sm (fun _ => 0) m = 0) rfl (fun i hi ih => by rw [sm_s _ hi, ih]; rfl) n hn
theorem sm_swap (F : Int → Int → Int) {n : Int} (hn : 0 ≤ n) {m : Int} (hm : 0 ≤ m) : sm (fun i => sm (fun j => F i j) m) n = sm (fun j => sm (fun i => F i j) n) m := by
  refine sm_ind (P := fun n => sm (fun i => sm (fun j => F i j) m) n = sm (fun j => sm (fun i => F i j) n) m) ?_ (fun i hi ih => ?_) n hn
  · rw [sm_0, show (fun j => sm (fun i => F i j) 0) = fun _ => 0 from rfl, sm_const0 hm]
  · rw [sm_s _ hi, ih, ← sm_add _ _ hm]
    exact sm_congr hm (fun j _ _ => (sm_s _ hi).symm)
