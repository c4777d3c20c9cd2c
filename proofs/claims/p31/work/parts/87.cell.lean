/-! the script's cell -/
def gMetS (l : Launch) (g : gD) (y : MethodName) (cc : ByteArray) (maxL : Nat) (ret : Option FieldType) (fr mc ms lo : Nat) (args : List Value) (b L : Nat) (sc : Int → Int) (Post : Option Value → Prop) : Prop :=
  ∀ sz : Nat, Met l y (.code y cc maxL ret :: wAll) { frames := fr, cells := mc, slots := ms, locals := lo } (va_Pc args (fun U => gE g U ∧ va_X b L (aI sc) U U.heap ∧ b < U.heap.size ∧ U.heap.size = sz)) (gQ g [] (fun v w => Post v ∧ w = []) (va_A [] sz)) mc ms (va_A [] sz)
theorem gMetS.of {l : Launch} {g : gD} {y : MethodName} {cc : ByteArray} {maxL : Nat} {ret : Option FieldType} {fr mc ms lo : Nat} {args : List Value} {b L : Nat} {sc : Int → Int} {Post : Option Value → Prop} (hy : plainName y.cls = true) (hlen : (lg_sl args).length ≤ maxL) (hL : L ≤ 4096)
    (body : ∀ x : gX, x.1.2.1 = l → gC g x y.cls cc maxL fr mc ms lo → gR g x ret mc ms [] (fun v w => Post v ∧ w = []) → gScr x b L sc → gW g x [] 0 0 (lv_args 0 args) 0 []) : gMetS l g y cc maxL ret fr mc ms lo args b L sc Post := by
  intro sz
  refine Met.ofW (cc := cc) (maxL := maxL) (ret := ret) hy rfl ?_
  intro p e s m args' below meth c s₁ B hml hv
  obtain ⟨rfl, hE, hX, hbs, hsz⟩ := hv
  subst hsz
  have hts := atoms_spec (ws := Cond.code y cc maxL ret :: wAll) B.pre
  have hown : s.vm.findClass y.cls = some m.cls := findClass_of_methodNamed B.named
  have hl := lv_entry args (n := maxL) hlen
  rw [lg_entry_eq]
  exact body ((p, l, e, _, s, m, args.toArray, below, meth, c), (va_A [] s.heap.size, s.heap, maxL, _)) rfl
    ⟨B.exec, B.bytes, hml, rfl, hown, fun w h => hts w (List.mem_cons_of_mem _ h), hE, fun q h => Or.inr h, rfl⟩
    ⟨rfl, rfl, B.returns, B.notSynchronized⟩ ⟨hX, hbs, fun z => by rcases z with ⟨k, e, h⟩ | h; simp at h; exact absurd hbs (Nat.not_lt.mpr h), hL⟩ s.heap [] _ (fun k q h => by simp at h) ⟨fun i j p q h => by simp at h, fun k q h => by simp at h⟩ va_S.rf hl
section rows
variable {g : gD} {x : gX} {own : String} {cc : ByteArray} {nL fr ce sl lo : Nat} {ws : va_W} {k n : Nat} {lv : List (Nat × Value)} {pc : Nat} {st : List Value}
theorem g_callSC (C : gC g x own cc nL fr ce sl lo) {b L : Nat} {sc : Int → Int} (hX : gScr x b L sc) {y : MethodName} {cy : ByteArray} {mL n' fr' lo' ix : Nat} {ret : Option FieldType} {Post : Option Value → Prop} (As rest : List Value) (hM : gMetS x.1.2.1 g y cy mL ret fr' 0 0 lo' As b L sc Post) (hY : gYs y cy mL ret n') (hl : Cond.methodLink own ix y ∈ wAll) (hst : st = As.reverse ++ rest) (hcat : (rest.map fun v => v.category).sum ≤ 8) (hn : As.length = n') (hroom : fr' + 1 ≤ fr ∧ 8 + (mL + 11) + lo' ≤ lo ∧ k + 0 ≤ ce ∧ n + 0 ≤ sl) (hd : decode cc pc = .ok (.invokestatic ix, 3))
    (kk : ∀ (v : Option Value), Post v → gW g x ws k n lv (pc + 3) (v.toList ++ rest)) : gW g x ws k n lv pc st := by
  obtain ⟨⟨p, l, e, R, s, m, args, below, meth, c⟩, A, H0, nL', Q⟩ := x
  intro H locs ls hP hD hS hlv
  obtain ⟨h1, h2, h3, h4, h5, h6, h7, h8, h9⟩ := C
  obtain ⟨hX1, hX2, hX3, hX4⟩ := hX
  subst h9; subst hst
  have hXH : va_X b L (aI sc) s H := hX1.kept (hS.2.1 b hX2 hX3)
  refine g_after (wc := []) (Post := fun v w => Post v ∧ w = []) (va_runS (As := As) (rest := rest) ⟨h1, h2, h3, h5, h6⟩ (hM H.size) (va_cwS n' h6 (g_goodS hl hY) rfl rfl rfl ⟨hY.2.2.2.2.1, hY.2.2.2.2.2.1, hY.2.2.2.2.2.2⟩ ⟨hroom.1, hroom.2.1⟩)
    ⟨?_, fun U hU hW => ⟨rfl, gE.moved hW h7, by rw [hU]; exact va_X.moved hW.alike hXH, by rw [hU]; exact Nat.lt_of_lt_of_le hX2 hS.1, by rw [hU]⟩⟩ rfl hn hlv.1 rfl (lv_room hcat) hd ⟨hroom.2.2.1, hroom.2.2.2⟩) hP hD hS h8 hlv [] rfl (fun v w1 hp => ?_)
  · exact fun _ U _ _ q => ⟨q.1, gE.moved (State.WarmedH.refl U) q.2.1, q.2.2⟩
  · obtain ⟨hp1, rfl⟩ := hp
    have e9 : putAll ws [] [] = ws := List.append_nil ws
    rw [e9]
    exact kk v hp1
end rows
def ce9 (L : Nat) (sc : Int → Int) (k : Int) : Int := if k < (L : Int) then sc k else 7919 * (k + 2969) * (k + 661)
theorem q_cell (l : Launch) (g : gD) (b L : Nat) (sc : Int → Int) (k : Int) (hk : 0 ≤ k ∧ k ≤ 110) (hL : L ≤ 4096) : gMetS l g yL_cell cL_cell 2 (some .int) 0 0 0 0 [.ref b, vi k] b L sc (fun v => v = some (vi (ce9 L sc k))) := by
  refine gMetS.of (by decide +kernel) (Nat.le_of_ble_eq_true rfl) hL ?_
  intro x hlx C hR hX
  subst hlx
  have C : gC g x RL cL_cell 2 0 0 0 0 := C
  show gW g x [] 0 0 [(0, .ref b), (1, vi k)] 0 []
  refine g_iload_n C 1 dL_cell_0 rfl ?_
  refine g_aload_n C 0 dL_cell_1 rfl ?_
  refine g_slen C hX dL_cell_2 ?_
  refine g_icmp_ge C 12 dL_cell_3 (by decide) (by omega) (by omega) (fun c => ?_) (fun c => ?_)
  · refine g_sipush C dL_cell_12 (by decide) ?_
    refine g_iload_n C 1 dL_cell_15 rfl ?_
    refine g_sipush C dL_cell_16 (by decide) ?_
    refine g_iadd C dL_cell_19 ?_
    refine g_imul C dL_cell_20 ?_
    refine g_iload_n C 1 dL_cell_21 rfl ?_
    refine g_sipush C dL_cell_22 (by decide) ?_
    refine g_iadd C dL_cell_25 ?_
    refine g_imul C dL_cell_26 ?_
    exact g_iret C hR dL_cell_27 ⟨congrArg (fun q => some (vi q)) (by unfold ce9; rw [if_neg (by omega)]), rfl⟩ rfl
  · refine g_aload_n C 0 dL_cell_6 rfl ?_
    refine g_iload_n C 1 dL_cell_7 rfl ?_
    refine g_sld C hX (by omega) dL_cell_8 ?_
    refine g_goto C 27 dL_cell_9 (by decide) ?_
    exact g_iret C hR dL_cell_27 ⟨congrArg (fun q => some (vi q)) (by unfold ce9; rw [if_pos (by omega)]), rfl⟩ rfl

