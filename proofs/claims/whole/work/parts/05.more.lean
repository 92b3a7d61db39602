/-! A few rows more. -/
theorem kp_FP.l {own : String} {index ci k : Nat} (h : kp_FP own index ci k) : kp_FL own index ci k := by
  obtain ⟨C, T, N, h1, h2, h3, _⟩ := h
  exact ⟨C, T, N, h1, h2, h3⟩
theorem kp_FF.l {own : String} {index ci k : Nat} (h : kp_FF own index ci k) : kp_FL own index ci k := by
  obtain ⟨C, T, N, h1, h2, h3, _⟩ := h
  exact ⟨C, T, N, h1, h2, h3⟩
theorem kp_lay {C : String} {T : u_T} {N : Nat} (ixs : List Nat) (h : ∀ k, k < N → (lw_tbl[ixs.getD k 0]? = some (u_lay C T k) ∧ goodWord (u_lay C T k) = true)) : ∀ w ∈ u_ws C T N, w ∈ kp_tb := by
  intro w hw
  obtain ⟨k, hk, rfl⟩ := List.mem_map.mp hw
  have := h k (List.mem_range.mp hk)
  exact kp_mem _ this.1 this.2
/-- a boolean -/
def kp_b (v : Int32) : Prop := v = 0 ∨ v = 1
theorem kp_bz {v : Int32} (h : kp_b v) : narrow .boolean (.int v) = .int v ∧ fits .boolean (.int v) = true := by
  rcases h with rfl | rfl <;> exact ⟨by decide, by decide⟩
theorem ow_inst : Cond.instanceMethod objectInit ∈ kp_tb := kp_mem 234 (by decide +kernel) (by decide +kernel)
theorem ow_code : Cond.code objectInit ⟨#[0xb1]⟩ 1 none ∈ kp_tb := kp_mem 235 (by decide +kernel) (by decide +kernel)
theorem om_mini : Cond.initialized "java/lang/Math" ∈ kp_tb := kp_mem 221 (by decide +kernel) (by decide +kernel)
theorem om_min_s : Cond.static Lib.Math.min.name ∈ kp_tb := kp_mem 680 (by decide +kernel) (by decide +kernel)
theorem om_min_c : Cond.code Lib.Math.min.name Lib.Math.min.code 2 (some .int) ∈ kp_tb := kp_mem 681 (by decide +kernel) (by decide +kernel)
theorem om_max_s : Cond.static Lib.Math.max.name ∈ kp_tb := kp_mem 729 (by decide +kernel) (by decide +kernel)
theorem om_max_c : Cond.code Lib.Math.max.name Lib.Math.max.code 2 (some .int) ∈ kp_tb := kp_mem 730 (by decide +kernel) (by decide +kernel)
section KPO
variable {p : Program} {l : Launch} {e : Env} {R : Room} {s : State} {m : MethodId} {args : Array Value} {below : List Frame} {meth : Method} {c : Code} {H : Heap} {locs : List Loc} {cells slots : Nat} {Q : State → Prop}
variable {D : va_G} {cy : Nat → ClassId} {ad : (Nat → Nat) × (Nat → Nat)} {own : String} {cc : ByteArray} {nL : Nat} {A : Nat → Prop} {pc : Nat} {ls : Array Slot} {rest : List Value} {a : Nat}
theorem kp_objInit {idx : Nat} (X : kp_X D cy ad own cc nL p s m args c A) (hls : ls.size = nL) (hl : Cond.methodLink own idx objectInit ∈ kp_tb) (hf : 1 ≤ R.frames) (hR : (rest.map fun v => v.category).sum + 12 ≤ R.locals) (hdg : decode cc pc = .ok (.invokespecial idx, 3))
    (kk : W p l e R s m args below meth c H locs cells slots Q (F0 m (pc + 3) ls rest)) : W p l e R s m args below meth c H locs cells slots Q (F0 m pc ls (.ref a :: rest)) :=
  W.objInit X.1 X.2.1 X.2.2.2.1 (X.2.2.2.2.1 _ hl) (X.2.2.2.2.1 _ ow_inst) (X.2.2.2.2.1 _ ow_code) rfl (by rw [X.2.2.1]; exact hls) rfl hdg hf (by simpa [JFrame.monitorRoom] using hR) kk
theorem kp_mmin {index : Nat} {x y : Int32} (X : kp_X D cy ad own cc nL p s m args c A) (hls : ls.size = nL) (hl : Cond.methodLink own index Lib.Math.min.name ∈ kp_tb) (hf : 1 ≤ R.frames) (hR : (rest.map fun v => v.category).sum + 13 ≤ R.locals) (hc : cells ≤ R.cells) (hs : slots ≤ R.slots) (hdg : decode cc pc = .ok (.invokestatic index, 3))
    (kk : W p l e R s m args below meth c H locs cells slots Q (F0 m (pc + 3) ls (.int (if y < x then y else x) :: rest))) : W p l e R s m args below meth c H locs cells slots Q (F0 m pc ls (.int y :: .int x :: rest)) :=
  va_mmin X.1 X.2.1 (by rw [X.2.2.1]; exact hls.symm) X.2.2.2.1 (X.2.2.2.2.1 _ hl) (X.2.2.2.2.1 _ om_min_s) (X.2.2.2.2.1 _ om_mini) (X.2.2.2.2.1 _ om_min_c) hf hR hc hs hdg kk
theorem kp_mmax {index : Nat} {x y : Int32} (X : kp_X D cy ad own cc nL p s m args c A) (hls : ls.size = nL) (hl : Cond.methodLink own index Lib.Math.max.name ∈ kp_tb) (hf : 1 ≤ R.frames) (hR : (rest.map fun v => v.category).sum + 13 ≤ R.locals) (hc : cells ≤ R.cells) (hs : slots ≤ R.slots) (hdg : decode cc pc = .ok (.invokestatic index, 3))
    (kk : W p l e R s m args below meth c H locs cells slots Q (F0 m (pc + 3) ls (.int (if x < y then y else x) :: rest))) : W p l e R s m args below meth c H locs cells slots Q (F0 m pc ls (.int y :: .int x :: rest)) :=
  va_mmax X.1 X.2.1 (by rw [X.2.2.1]; exact hls.symm) X.2.2.2.1 (X.2.2.2.2.1 _ hl) (X.2.2.2.2.1 _ om_max_s) (X.2.2.2.2.1 _ om_mini) (X.2.2.2.2.1 _ om_max_c) hf hR hc hs hdg kk
end KPO
