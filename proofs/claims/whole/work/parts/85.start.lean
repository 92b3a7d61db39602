/-! THE START: what the Statement gives is the pool's world, empty. -/
def kp_0 : kp_S := ([], fun _ => 0, fun _ _ => 0, fun _ _ => 0, fun _ _ => none, fun _ => 0, fun _ _ => 0, fun _ _ => 0, fun _ _ => none)
theorem kp_str1 {args : Array Value} {s : State} {A : Nat → Prop} (T : Term) (n : Nat) (bs : List Int32) (hn : n < 2 ^ 31) (h1 : (Cond.exactly T "java/lang/String").before args s = true) (h2 : (Cond.eq (.field T "java/lang/String" "coder" "B") (.int 0)).before args s = true) (h3 : (Cond.arrayOf (.field T "java/lang/String" "value" "[B") .byte).before args s = true) (h4 : (Cond.eq (.length (.field T "java/lang/String" "value" "[B")) (.int (Int32.ofNat n))).before args s = true) (h5 : ∀ j : Nat, j < n → (Cond.eq (.elem (.field T "java/lang/String" "value" "[B") (.int (Int32.ofNat j))) (.int (bs.getD j 0))).before args s = true) (hA : ∀ a : Nat, a < s.heap.size → ¬ A a) :
    ∃ q : Nat × Nat, T.eval args s none [] s = some (.ref q.1) ∧ va_O "java/lang/String" q.1 A s s.heap ∧ va_OF "java/lang/String" "coder" "B" (.int 0) q.1 A s s.heap ∧ va_OF "java/lang/String" "value" "[B" (.ref q.2) q.1 A s s.heap ∧ va_T .byte q.2 n (fun j => .int (bs.getD j 0)) A s s.heap := by
  obtain ⟨adK, adV, hS, he⟩ := vk_Sof (N := 1) (tm := fun _ => T) (len := [n]) (byt := [bs]) (A := A)
    (fun i hi => by obtain rfl : i = 0 := by omega
                    exact hn)
    (fun i hi => h1) (fun i hi => h2) (fun i hi => h3)
    (fun i hi => by obtain rfl : i = 0 := by omega
                    exact h4)
    (fun i hi j hj => by obtain rfl : i = 0 := by omega
                         exact h5 j hj)
    (fun i j hi hj hij => absurd (by omega : i = j) hij) hA
  exact ⟨(adK 0, adV 0), he 0 (by omega), hS.1 0 (by omega)⟩
def kp_tm (i : Nat) : Term := match kp_strs[i]? with
  | some q => .string q.1 q.2.1
  | none => .string "" 0
theorem kp_sdist : ∀ i, i < 42 → ∀ j, j < 42 → i ≠ j → (kp_sl.getD i 0 = kp_sl.getD j 0 → (List.range (kp_sl.getD i 0)).any (fun t => decide ((kp_sb.getD i []).getD t 0 ≠ (kp_sb.getD j []).getD t 0)) = true) := by decide +kernel
theorem kp_slen_lt : ∀ i, i < 42 → kp_sl.getD i 0 < 2 ^ 31 := by decide +kernel
theorem kp_same {o n d : String} {v w : Value} {t : Nat} {A : Nat → Prop} {U : State} {H : Heap} (h1 : va_OF o n d v t A U H) (h2 : va_OF o n d w t A U H) : v = w := by
  obtain ⟨cf, k, i, f, cell, a1, a2, a3, a4, a5, a6⟩ := h1
  obtain ⟨cf', k', i', f', cell', b1, b2, b3, b4, b5, b6⟩ := h2
  cases Option.some.inj (a1.symm.trans b1)
  cases Option.some.inj (a3.symm.trans b3)
  exact Option.some.inj (a5.symm.trans b5)
theorem kp_sameT {t n k : Nat} {f g : Nat → Value} {A : Nat → Prop} {U : State} {H : Heap} (hn : n < 2 ^ 31) (hk : k < 2 ^ 31) (h1 : va_T .byte t n f A U H) (h2 : va_T .byte t k g A U H) : n = k ∧ ∀ j, j < n → f j = g j := by
  obtain ⟨c1, a1, a2, a3, a4, a5, a6, a7⟩ := h1
  obtain ⟨c2, b1, b2, b3, b4, b5, b6, b7⟩ := h2
  cases Option.some.inj (a1.symm.trans b1)
  have e : n = k := (nI_eq hn hk).mp (a5.symm.trans b5)
  subst e
  exact ⟨rfl, fun j hj => Option.some.inj ((a6 j hj).symm.trans (b6 j hj))⟩
set_option maxRecDepth 100000 in
theorem kp_strw {args : Array Value} {s : State} (hts : ∀ w ∈ lw_tbl, w.before args s = true) : ∀ (i : Nat) (q : String × Nat × String), kp_strs[i]? = some q → (Cond.stringRef q.1 q.2.1 q.2.2).before args s = true := by
  intro i q hi
  match i, hi with
  | 0, hi => cases hi; exact hts _ (List.mem_of_getElem? (i := 270) (by decide +kernel))
  | 1, hi => cases hi; exact hts _ (List.mem_of_getElem? (i := 712) (by decide +kernel))
  | 2, hi => cases hi; exact hts _ (List.mem_of_getElem? (i := 1647) (by decide +kernel))
  | 3, hi => cases hi; exact hts _ (List.mem_of_getElem? (i := 1653) (by decide +kernel))
  | 4, hi => cases hi; exact hts _ (List.mem_of_getElem? (i := 1654) (by decide +kernel))
  | 5, hi => cases hi; exact hts _ (List.mem_of_getElem? (i := 1655) (by decide +kernel))
  | 6, hi => cases hi; exact hts _ (List.mem_of_getElem? (i := 1656) (by decide +kernel))
  | 7, hi => cases hi; exact hts _ (List.mem_of_getElem? (i := 1657) (by decide +kernel))
  | 8, hi => cases hi; exact hts _ (List.mem_of_getElem? (i := 1658) (by decide +kernel))
  | 9, hi => cases hi; exact hts _ (List.mem_of_getElem? (i := 1659) (by decide +kernel))
  | 10, hi => cases hi; exact hts _ (List.mem_of_getElem? (i := 1660) (by decide +kernel))
  | 11, hi => cases hi; exact hts _ (List.mem_of_getElem? (i := 1661) (by decide +kernel))
  | 12, hi => cases hi; exact hts _ (List.mem_of_getElem? (i := 1662) (by decide +kernel))
  | 13, hi => cases hi; exact hts _ (List.mem_of_getElem? (i := 1663) (by decide +kernel))
  | 14, hi => cases hi; exact hts _ (List.mem_of_getElem? (i := 1664) (by decide +kernel))
  | 15, hi => cases hi; exact hts _ (List.mem_of_getElem? (i := 1665) (by decide +kernel))
  | 16, hi => cases hi; exact hts _ (List.mem_of_getElem? (i := 1666) (by decide +kernel))
  | 17, hi => cases hi; exact hts _ (List.mem_of_getElem? (i := 1667) (by decide +kernel))
  | 18, hi => cases hi; exact hts _ (List.mem_of_getElem? (i := 1668) (by decide +kernel))
  | 19, hi => cases hi; exact hts _ (List.mem_of_getElem? (i := 1669) (by decide +kernel))
  | 20, hi => cases hi; exact hts _ (List.mem_of_getElem? (i := 1670) (by decide +kernel))
  | 21, hi => cases hi; exact hts _ (List.mem_of_getElem? (i := 1671) (by decide +kernel))
  | 22, hi => cases hi; exact hts _ (List.mem_of_getElem? (i := 1672) (by decide +kernel))
  | 23, hi => cases hi; exact hts _ (List.mem_of_getElem? (i := 1673) (by decide +kernel))
  | 24, hi => cases hi; exact hts _ (List.mem_of_getElem? (i := 1674) (by decide +kernel))
  | 25, hi => cases hi; exact hts _ (List.mem_of_getElem? (i := 1675) (by decide +kernel))
  | 26, hi => cases hi; exact hts _ (List.mem_of_getElem? (i := 1676) (by decide +kernel))
  | 27, hi => cases hi; exact hts _ (List.mem_of_getElem? (i := 1677) (by decide +kernel))
  | 28, hi => cases hi; exact hts _ (List.mem_of_getElem? (i := 1678) (by decide +kernel))
  | 29, hi => cases hi; exact hts _ (List.mem_of_getElem? (i := 1679) (by decide +kernel))
  | 30, hi => cases hi; exact hts _ (List.mem_of_getElem? (i := 1680) (by decide +kernel))
  | 31, hi => cases hi; exact hts _ (List.mem_of_getElem? (i := 1681) (by decide +kernel))
  | 32, hi => cases hi; exact hts _ (List.mem_of_getElem? (i := 1682) (by decide +kernel))
  | 33, hi => cases hi; exact hts _ (List.mem_of_getElem? (i := 1683) (by decide +kernel))
  | 34, hi => cases hi; exact hts _ (List.mem_of_getElem? (i := 1684) (by decide +kernel))
  | 35, hi => cases hi; exact hts _ (List.mem_of_getElem? (i := 1685) (by decide +kernel))
  | 36, hi => cases hi; exact hts _ (List.mem_of_getElem? (i := 1686) (by decide +kernel))
  | 37, hi => cases hi; exact hts _ (List.mem_of_getElem? (i := 1687) (by decide +kernel))
  | 38, hi => cases hi; exact hts _ (List.mem_of_getElem? (i := 1688) (by decide +kernel))
  | 39, hi => cases hi; exact hts _ (List.mem_of_getElem? (i := 1689) (by decide +kernel))
  | 40, hi => cases hi; exact hts _ (List.mem_of_getElem? (i := 1690) (by decide +kernel))
  | 41, hi => cases hi; exact hts _ (List.mem_of_getElem? (i := 1691) (by decide +kernel))
  | k + 42, hi => simp [kp_strs] at hi
set_option maxRecDepth 100000 in
theorem kp_strs_at {args : Array Value} {s : State} {A : Nat → Prop} (hs : ∀ w ∈ kp_flat, w.before args s = true) (hA : ∀ a : Nat, a < s.heap.size → ¬ A a) : ∀ i : Nat, ∃ q : Nat × Nat, i < kp_sN → (kp_tm i).eval args s none [] s = some (.ref q.1) ∧ va_O "java/lang/String" q.1 A s s.heap ∧ va_OF "java/lang/String" "coder" "B" (.int 0) q.1 A s s.heap ∧ va_OF "java/lang/String" "value" "[B" (.ref q.2) q.1 A s s.heap ∧ va_T .byte q.2 (kp_sl.getD i 0) (fun j => .int ((kp_sb.getD i []).getD j 0)) A s s.heap := by
  have hm : ∀ (k : Nat) (w : Cond), kp_flat[k]? = some w → w.before args s = true := fun k w h => hs w (List.mem_of_getElem? h)
  intro i
  match i with
  | 0 =>
    obtain ⟨q, hq⟩ := kp_str1 (A := A) (Term.string "LockKeepers$Tokens" 19) 210 (kp_sb.getD 0 []) (by decide) (hm _ _ ss_0.1) (hm _ _ ss_0.2.1) (hm _ _ ss_0.2.2.1) (hm _ _ ss_0.2.2.2) (fun j hj => hm _ _ (se_0 j hj)) hA
    exact ⟨q, fun _ => hq⟩
  | 1 =>
    obtain ⟨q, hq⟩ := kp_str1 (A := A) (Term.string "LockKeepers$Tokens" 93) 14 (kp_sb.getD 1 []) (by decide) (hm _ _ ss_1.1) (hm _ _ ss_1.2.1) (hm _ _ ss_1.2.2.1) (hm _ _ ss_1.2.2.2) (fun j hj => hm _ _ (se_1 j hj)) hA
    exact ⟨q, fun _ => hq⟩
  | 2 =>
    obtain ⟨q, hq⟩ := kp_str1 (A := A) (Term.string "LockKeepersModel" 248) 4 (kp_sb.getD 2 []) (by decide) (hm _ _ ss_2.1) (hm _ _ ss_2.2.1) (hm _ _ ss_2.2.2.1) (hm _ _ ss_2.2.2.2) (fun j hj => hm _ _ (se_2 j hj)) hA
    exact ⟨q, fun _ => hq⟩
  | 3 =>
    obtain ⟨q, hq⟩ := kp_str1 (A := A) (Term.string "LockKeepersModel" 254) 3 (kp_sb.getD 3 []) (by decide) (hm _ _ ss_3.1) (hm _ _ ss_3.2.1) (hm _ _ ss_3.2.2.1) (hm _ _ ss_3.2.2.2) (fun j hj => hm _ _ (se_3 j hj)) hA
    exact ⟨q, fun _ => hq⟩
  | 4 =>
    obtain ⟨q, hq⟩ := kp_str1 (A := A) (Term.string "LockKeepersModel" 256) 4 (kp_sb.getD 4 []) (by decide) (hm _ _ ss_4.1) (hm _ _ ss_4.2.1) (hm _ _ ss_4.2.2.1) (hm _ _ ss_4.2.2.2) (fun j hj => hm _ _ (se_4 j hj)) hA
    exact ⟨q, fun _ => hq⟩
  | 5 =>
    obtain ⟨q, hq⟩ := kp_str1 (A := A) (Term.string "LockKeepersModel" 258) 2 (kp_sb.getD 5 []) (by decide) (hm _ _ ss_5.1) (hm _ _ ss_5.2.1) (hm _ _ ss_5.2.2.1) (hm _ _ ss_5.2.2.2) (fun j hj => hm _ _ (se_5 j hj)) hA
    exact ⟨q, fun _ => hq⟩
  | 6 =>
    obtain ⟨q, hq⟩ := kp_str1 (A := A) (Term.string "LockKeepersModel" 260) 4 (kp_sb.getD 6 []) (by decide) (hm _ _ ss_6.1) (hm _ _ ss_6.2.1) (hm _ _ ss_6.2.2.1) (hm _ _ ss_6.2.2.2) (fun j hj => hm _ _ (se_6 j hj)) hA
    exact ⟨q, fun _ => hq⟩
  | 7 =>
    obtain ⟨q, hq⟩ := kp_str1 (A := A) (Term.string "LockKeepersModel" 262) 5 (kp_sb.getD 7 []) (by decide) (hm _ _ ss_7.1) (hm _ _ ss_7.2.1) (hm _ _ ss_7.2.2.1) (hm _ _ ss_7.2.2.2) (fun j hj => hm _ _ (se_7 j hj)) hA
    exact ⟨q, fun _ => hq⟩
  | 8 =>
    obtain ⟨q, hq⟩ := kp_str1 (A := A) (Term.string "LockKeepersModel" 264) 4 (kp_sb.getD 8 []) (by decide) (hm _ _ ss_8.1) (hm _ _ ss_8.2.1) (hm _ _ ss_8.2.2.1) (hm _ _ ss_8.2.2.2) (fun j hj => hm _ _ (se_8 j hj)) hA
    exact ⟨q, fun _ => hq⟩
  | 9 =>
    obtain ⟨q, hq⟩ := kp_str1 (A := A) (Term.string "LockKeepersModel" 266) 4 (kp_sb.getD 9 []) (by decide) (hm _ _ ss_9.1) (hm _ _ ss_9.2.1) (hm _ _ ss_9.2.2.1) (hm _ _ ss_9.2.2.2) (fun j hj => hm _ _ (se_9 j hj)) hA
    exact ⟨q, fun _ => hq⟩
  | 10 =>
    obtain ⟨q, hq⟩ := kp_str1 (A := A) (Term.string "LockKeepersModel" 268) 2 (kp_sb.getD 10 []) (by decide) (hm _ _ ss_10.1) (hm _ _ ss_10.2.1) (hm _ _ ss_10.2.2.1) (hm _ _ ss_10.2.2.2) (fun j hj => hm _ _ (se_10 j hj)) hA
    exact ⟨q, fun _ => hq⟩
  | 11 =>
    obtain ⟨q, hq⟩ := kp_str1 (A := A) (Term.string "LockKeepersModel" 270) 5 (kp_sb.getD 11 []) (by decide) (hm _ _ ss_11.1) (hm _ _ ss_11.2.1) (hm _ _ ss_11.2.2.1) (hm _ _ ss_11.2.2.2) (fun j hj => hm _ _ (se_11 j hj)) hA
    exact ⟨q, fun _ => hq⟩
  | 12 =>
    obtain ⟨q, hq⟩ := kp_str1 (A := A) (Term.string "LockKeepersModel" 272) 5 (kp_sb.getD 12 []) (by decide) (hm _ _ ss_12.1) (hm _ _ ss_12.2.1) (hm _ _ ss_12.2.2.1) (hm _ _ ss_12.2.2.2) (fun j hj => hm _ _ (se_12 j hj)) hA
    exact ⟨q, fun _ => hq⟩
  | 13 =>
    obtain ⟨q, hq⟩ := kp_str1 (A := A) (Term.string "LockKeepersModel" 274) 6 (kp_sb.getD 13 []) (by decide) (hm _ _ ss_13.1) (hm _ _ ss_13.2.1) (hm _ _ ss_13.2.2.1) (hm _ _ ss_13.2.2.2) (fun j hj => hm _ _ (se_13 j hj)) hA
    exact ⟨q, fun _ => hq⟩
  | 14 =>
    obtain ⟨q, hq⟩ := kp_str1 (A := A) (Term.string "LockKeepersModel" 276) 4 (kp_sb.getD 14 []) (by decide) (hm _ _ ss_14.1) (hm _ _ ss_14.2.1) (hm _ _ ss_14.2.2.1) (hm _ _ ss_14.2.2.2) (fun j hj => hm _ _ (se_14 j hj)) hA
    exact ⟨q, fun _ => hq⟩
  | 15 =>
    obtain ⟨q, hq⟩ := kp_str1 (A := A) (Term.string "LockKeepersModel" 278) 4 (kp_sb.getD 15 []) (by decide) (hm _ _ ss_15.1) (hm _ _ ss_15.2.1) (hm _ _ ss_15.2.2.1) (hm _ _ ss_15.2.2.2) (fun j hj => hm _ _ (se_15 j hj)) hA
    exact ⟨q, fun _ => hq⟩
  | 16 =>
    obtain ⟨q, hq⟩ := kp_str1 (A := A) (Term.string "LockKeepersModel" 280) 3 (kp_sb.getD 16 []) (by decide) (hm _ _ ss_16.1) (hm _ _ ss_16.2.1) (hm _ _ ss_16.2.2.1) (hm _ _ ss_16.2.2.2) (fun j hj => hm _ _ (se_16 j hj)) hA
    exact ⟨q, fun _ => hq⟩
  | 17 =>
    obtain ⟨q, hq⟩ := kp_str1 (A := A) (Term.string "LockKeepersModel" 282) 4 (kp_sb.getD 17 []) (by decide) (hm _ _ ss_17.1) (hm _ _ ss_17.2.1) (hm _ _ ss_17.2.2.1) (hm _ _ ss_17.2.2.2) (fun j hj => hm _ _ (se_17 j hj)) hA
    exact ⟨q, fun _ => hq⟩
  | 18 =>
    obtain ⟨q, hq⟩ := kp_str1 (A := A) (Term.string "LockKeepersModel" 284) 3 (kp_sb.getD 18 []) (by decide) (hm _ _ ss_18.1) (hm _ _ ss_18.2.1) (hm _ _ ss_18.2.2.1) (hm _ _ ss_18.2.2.2) (fun j hj => hm _ _ (se_18 j hj)) hA
    exact ⟨q, fun _ => hq⟩
  | 19 =>
    obtain ⟨q, hq⟩ := kp_str1 (A := A) (Term.string "LockKeepersModel" 286) 6 (kp_sb.getD 19 []) (by decide) (hm _ _ ss_19.1) (hm _ _ ss_19.2.1) (hm _ _ ss_19.2.2.1) (hm _ _ ss_19.2.2.2) (fun j hj => hm _ _ (se_19 j hj)) hA
    exact ⟨q, fun _ => hq⟩
  | 20 =>
    obtain ⟨q, hq⟩ := kp_str1 (A := A) (Term.string "LockKeepersModel" 288) 5 (kp_sb.getD 20 []) (by decide) (hm _ _ ss_20.1) (hm _ _ ss_20.2.1) (hm _ _ ss_20.2.2.1) (hm _ _ ss_20.2.2.2) (fun j hj => hm _ _ (se_20 j hj)) hA
    exact ⟨q, fun _ => hq⟩
  | 21 =>
    obtain ⟨q, hq⟩ := kp_str1 (A := A) (Term.string "LockKeepersModel" 290) 4 (kp_sb.getD 21 []) (by decide) (hm _ _ ss_21.1) (hm _ _ ss_21.2.1) (hm _ _ ss_21.2.2.1) (hm _ _ ss_21.2.2.2) (fun j hj => hm _ _ (se_21 j hj)) hA
    exact ⟨q, fun _ => hq⟩
  | 22 =>
    obtain ⟨q, hq⟩ := kp_str1 (A := A) (Term.string "LockKeepersModel" 292) 2 (kp_sb.getD 22 []) (by decide) (hm _ _ ss_22.1) (hm _ _ ss_22.2.1) (hm _ _ ss_22.2.2.1) (hm _ _ ss_22.2.2.2) (fun j hj => hm _ _ (se_22 j hj)) hA
    exact ⟨q, fun _ => hq⟩
  | 23 =>
    obtain ⟨q, hq⟩ := kp_str1 (A := A) (Term.string "LockKeepersModel" 294) 3 (kp_sb.getD 23 []) (by decide) (hm _ _ ss_23.1) (hm _ _ ss_23.2.1) (hm _ _ ss_23.2.2.1) (hm _ _ ss_23.2.2.2) (fun j hj => hm _ _ (se_23 j hj)) hA
    exact ⟨q, fun _ => hq⟩
  | 24 =>
    obtain ⟨q, hq⟩ := kp_str1 (A := A) (Term.string "LockKeepersModel" 296) 3 (kp_sb.getD 24 []) (by decide) (hm _ _ ss_24.1) (hm _ _ ss_24.2.1) (hm _ _ ss_24.2.2.1) (hm _ _ ss_24.2.2.2) (fun j hj => hm _ _ (se_24 j hj)) hA
    exact ⟨q, fun _ => hq⟩
  | 25 =>
    obtain ⟨q, hq⟩ := kp_str1 (A := A) (Term.string "LockKeepersModel" 298) 4 (kp_sb.getD 25 []) (by decide) (hm _ _ ss_25.1) (hm _ _ ss_25.2.1) (hm _ _ ss_25.2.2.1) (hm _ _ ss_25.2.2.2) (fun j hj => hm _ _ (se_25 j hj)) hA
    exact ⟨q, fun _ => hq⟩
  | 26 =>
    obtain ⟨q, hq⟩ := kp_str1 (A := A) (Term.string "LockKeepersModel" 300) 4 (kp_sb.getD 26 []) (by decide) (hm _ _ ss_26.1) (hm _ _ ss_26.2.1) (hm _ _ ss_26.2.2.1) (hm _ _ ss_26.2.2.2) (fun j hj => hm _ _ (se_26 j hj)) hA
    exact ⟨q, fun _ => hq⟩
  | 27 =>
    obtain ⟨q, hq⟩ := kp_str1 (A := A) (Term.string "LockKeepersModel" 302) 6 (kp_sb.getD 27 []) (by decide) (hm _ _ ss_27.1) (hm _ _ ss_27.2.1) (hm _ _ ss_27.2.2.1) (hm _ _ ss_27.2.2.2) (fun j hj => hm _ _ (se_27 j hj)) hA
    exact ⟨q, fun _ => hq⟩
  | 28 =>
    obtain ⟨q, hq⟩ := kp_str1 (A := A) (Term.string "LockKeepersModel" 304) 4 (kp_sb.getD 28 []) (by decide) (hm _ _ ss_28.1) (hm _ _ ss_28.2.1) (hm _ _ ss_28.2.2.1) (hm _ _ ss_28.2.2.2) (fun j hj => hm _ _ (se_28 j hj)) hA
    exact ⟨q, fun _ => hq⟩
  | 29 =>
    obtain ⟨q, hq⟩ := kp_str1 (A := A) (Term.string "LockKeepersModel" 306) 5 (kp_sb.getD 29 []) (by decide) (hm _ _ ss_29.1) (hm _ _ ss_29.2.1) (hm _ _ ss_29.2.2.1) (hm _ _ ss_29.2.2.2) (fun j hj => hm _ _ (se_29 j hj)) hA
    exact ⟨q, fun _ => hq⟩
  | 30 =>
    obtain ⟨q, hq⟩ := kp_str1 (A := A) (Term.string "LockKeepersModel" 308) 5 (kp_sb.getD 30 []) (by decide) (hm _ _ ss_30.1) (hm _ _ ss_30.2.1) (hm _ _ ss_30.2.2.1) (hm _ _ ss_30.2.2.2) (fun j hj => hm _ _ (se_30 j hj)) hA
    exact ⟨q, fun _ => hq⟩
  | 31 =>
    obtain ⟨q, hq⟩ := kp_str1 (A := A) (Term.string "LockKeepersModel" 309) 4 (kp_sb.getD 31 []) (by decide) (hm _ _ ss_31.1) (hm _ _ ss_31.2.1) (hm _ _ ss_31.2.2.1) (hm _ _ ss_31.2.2.2) (fun j hj => hm _ _ (se_31 j hj)) hA
    exact ⟨q, fun _ => hq⟩
  | 32 =>
    obtain ⟨q, hq⟩ := kp_str1 (A := A) (Term.string "LockKeepersModel" 311) 4 (kp_sb.getD 32 []) (by decide) (hm _ _ ss_32.1) (hm _ _ ss_32.2.1) (hm _ _ ss_32.2.2.1) (hm _ _ ss_32.2.2.2) (fun j hj => hm _ _ (se_32 j hj)) hA
    exact ⟨q, fun _ => hq⟩
  | 33 =>
    obtain ⟨q, hq⟩ := kp_str1 (A := A) (Term.string "LockKeepersModel" 313) 4 (kp_sb.getD 33 []) (by decide) (hm _ _ ss_33.1) (hm _ _ ss_33.2.1) (hm _ _ ss_33.2.2.1) (hm _ _ ss_33.2.2.2) (fun j hj => hm _ _ (se_33 j hj)) hA
    exact ⟨q, fun _ => hq⟩
  | 34 =>
    obtain ⟨q, hq⟩ := kp_str1 (A := A) (Term.string "LockKeepersModel" 315) 4 (kp_sb.getD 34 []) (by decide) (hm _ _ ss_34.1) (hm _ _ ss_34.2.1) (hm _ _ ss_34.2.2.1) (hm _ _ ss_34.2.2.2) (fun j hj => hm _ _ (se_34 j hj)) hA
    exact ⟨q, fun _ => hq⟩
  | 35 =>
    obtain ⟨q, hq⟩ := kp_str1 (A := A) (Term.string "LockKeepersModel" 316) 5 (kp_sb.getD 35 []) (by decide) (hm _ _ ss_35.1) (hm _ _ ss_35.2.1) (hm _ _ ss_35.2.2.1) (hm _ _ ss_35.2.2.2) (fun j hj => hm _ _ (se_35 j hj)) hA
    exact ⟨q, fun _ => hq⟩
  | 36 =>
    obtain ⟨q, hq⟩ := kp_str1 (A := A) (Term.string "LockKeepersModel" 318) 6 (kp_sb.getD 36 []) (by decide) (hm _ _ ss_36.1) (hm _ _ ss_36.2.1) (hm _ _ ss_36.2.2.1) (hm _ _ ss_36.2.2.2) (fun j hj => hm _ _ (se_36 j hj)) hA
    exact ⟨q, fun _ => hq⟩
  | 37 =>
    obtain ⟨q, hq⟩ := kp_str1 (A := A) (Term.string "LockKeepersModel" 320) 6 (kp_sb.getD 37 []) (by decide) (hm _ _ ss_37.1) (hm _ _ ss_37.2.1) (hm _ _ ss_37.2.2.1) (hm _ _ ss_37.2.2.2) (fun j hj => hm _ _ (se_37 j hj)) hA
    exact ⟨q, fun _ => hq⟩
  | 38 =>
    obtain ⟨q, hq⟩ := kp_str1 (A := A) (Term.string "LockKeepersModel" 322) 5 (kp_sb.getD 38 []) (by decide) (hm _ _ ss_38.1) (hm _ _ ss_38.2.1) (hm _ _ ss_38.2.2.1) (hm _ _ ss_38.2.2.2) (fun j hj => hm _ _ (se_38 j hj)) hA
    exact ⟨q, fun _ => hq⟩
  | 39 =>
    obtain ⟨q, hq⟩ := kp_str1 (A := A) (Term.string "LockKeepersModel" 324) 6 (kp_sb.getD 39 []) (by decide) (hm _ _ ss_39.1) (hm _ _ ss_39.2.1) (hm _ _ ss_39.2.2.1) (hm _ _ ss_39.2.2.2) (fun j hj => hm _ _ (se_39 j hj)) hA
    exact ⟨q, fun _ => hq⟩
  | 40 =>
    obtain ⟨q, hq⟩ := kp_str1 (A := A) (Term.string "LockKeepersModel" 326) 4 (kp_sb.getD 40 []) (by decide) (hm _ _ ss_40.1) (hm _ _ ss_40.2.1) (hm _ _ ss_40.2.2.1) (hm _ _ ss_40.2.2.2) (fun j hj => hm _ _ (se_40 j hj)) hA
    exact ⟨q, fun _ => hq⟩
  | 41 =>
    obtain ⟨q, hq⟩ := kp_str1 (A := A) (Term.string "LockKeepersModel" 328) 5 (kp_sb.getD 41 []) (by decide) (hm _ _ ss_41.1) (hm _ _ ss_41.2.1) (hm _ _ ss_41.2.2.1) (hm _ _ ss_41.2.2.2) (fun j hj => hm _ _ (se_41 j hj)) hA
    exact ⟨q, fun _ => hq⟩
  | k + 42 => exact ⟨(0, 0), fun h => absurd h (by unfold kp_sN; omega)⟩
set_option maxHeartbeats 4000000 in
set_option maxRecDepth 100000 in
theorem kp_begin {p : Program} {s : State} {m : MethodId} {meth : Method} {c : Code} {b L : Nat} {xs : Nat → Int32} (C0 : lw_At p s m meth c b L xs) : ∃ (D : va_G) (cy : Nat → ClassId) (ad : (Nat → Nat) × (Nat → Nat)), kp_X D cy ad RL code 7 p s m #[Value.ref b] c (fun q : Nat => s.heap.size ≤ q) ∧ kp_Nl s ∧ kp_Th (fun q : Nat => s.heap.size ≤ q) s s.heap ∧ kp_H D cy (fun q : Nat => s.heap.size ≤ q) kp_0 s.heap s.heap [] := by
  obtain ⟨hx, hb, hr, hml, hown, hts, hX, hbl, hlocks, hgv⟩ := C0
  have hA : ∀ a : Nat, a < s.heap.size → ¬ (fun q : Nat => s.heap.size ≤ q) a := fun a h => Nat.not_le.mpr h
  have hg : ∀ w ∈ kp_tb, w.before #[Value.ref b] s = true := fun w hw => hts w (List.mem_filter.mp hw).1
  have hs : ∀ w ∈ kp_flat, w.before #[Value.ref b] s = true := flat_of_before _ hgv
  have hm : ∀ (k : Nat) (w : Cond), kp_flat[k]? = some w → w.before #[Value.ref b] s = true := fun k w h => hs w (List.mem_of_getElem? h)
  -- classes
  have hcl : ∀ k : Nat, ∃ y : ClassId × (Nat → Nat), ∀ q : vw_C, kp_cl[k]? = some q → u_Kn s q.1 q.2.1 q.2.2 y.1 y.2 := by
    intro k
    match k with
    | 0 =>
      obtain ⟨cC, iS, hK⟩ := u_known (C := RX0) (T := TX0) (N := 4) (n := 4) hg cl_0.2.2.2.1 (hts _ (List.mem_of_getElem? (i := 237) (by decide +kernel)))
      exact ⟨(cC, iS), fun q hq => by cases hq; exact hK⟩
    | 1 =>
      obtain ⟨cC, iS, hK⟩ := u_known (C := RX1) (T := TX1) (N := 5) (n := 5) hg cl_1.2.2.2.1 (hts _ (List.mem_of_getElem? (i := 444) (by decide +kernel)))
      exact ⟨(cC, iS), fun q hq => by cases hq; exact hK⟩
    | 2 =>
      obtain ⟨cC, iS, hK⟩ := u_known (C := RX2) (T := TX2) (N := 3) (n := 3) hg cl_2.2.2.2.1 (hts _ (List.mem_of_getElem? (i := 412) (by decide +kernel)))
      exact ⟨(cC, iS), fun q hq => by cases hq; exact hK⟩
    | 3 =>
      obtain ⟨cC, iS, hK⟩ := u_known (C := RX3) (T := TX3) (N := 5) (n := 5) hg cl_3.2.2.2.1 (hts _ (List.mem_of_getElem? (i := 514) (by decide +kernel)))
      exact ⟨(cC, iS), fun q hq => by cases hq; exact hK⟩
    | 4 =>
      obtain ⟨cC, iS, hK⟩ := u_known (C := RX4) (T := TX4) (N := 15) (n := 15) hg cl_4.2.2.2.1 (hts _ (List.mem_of_getElem? (i := 482) (by decide +kernel)))
      exact ⟨(cC, iS), fun q hq => by cases hq; exact hK⟩
    | 5 =>
      obtain ⟨cC, iS, hK⟩ := u_known (C := RX5) (T := TX5) (N := 13) (n := 13) hg cl_5.2.2.2.1 (hts _ (List.mem_of_getElem? (i := 364) (by decide +kernel)))
      exact ⟨(cC, iS), fun q hq => by cases hq; exact hK⟩
    | 6 =>
      obtain ⟨cC, iS, hK⟩ := u_known (C := RX6) (T := TX6) (N := 9) (n := 9) hg cl_6.2.2.2.1 (hts _ (List.mem_of_getElem? (i := 537) (by decide +kernel)))
      exact ⟨(cC, iS), fun q hq => by cases hq; exact hK⟩
    | 7 =>
      obtain ⟨cC, iS, hK⟩ := u_known (C := RX7) (T := TX7) (N := 3) (n := 3) hg cl_7.2.2.2.1 (hts _ (List.mem_of_getElem? (i := 466) (by decide +kernel)))
      exact ⟨(cC, iS), fun q hq => by cases hq; exact hK⟩
    | 8 =>
      obtain ⟨cC, iS, hK⟩ := u_known (C := RX8) (T := TX8) (N := 5) (n := 5) hg cl_8.2.2.2.1 (hts _ (List.mem_of_getElem? (i := 259) (by decide +kernel)))
      exact ⟨(cC, iS), fun q hq => by cases hq; exact hK⟩
    | 9 =>
      obtain ⟨cC, iS, hK⟩ := u_known (C := RX9) (T := TX9) (N := 11) (n := 11) hg cl_9.2.2.2.1 (hts _ (List.mem_of_getElem? (i := 265) (by decide +kernel)))
      exact ⟨(cC, iS), fun q hq => by cases hq; exact hK⟩
    | 10 =>
      obtain ⟨cC, iS, hK⟩ := u_known (C := RX10) (T := TX10) (N := 4) (n := 4) hg cl_10.2.2.2.1 (hts _ (List.mem_of_getElem? (i := 492) (by decide +kernel)))
      exact ⟨(cC, iS), fun q hq => by cases hq; exact hK⟩
    | 11 =>
      obtain ⟨cC, iS, hK⟩ := u_known (C := RX11) (T := TX11) (N := 9) (n := 9) hg cl_11.2.2.2.1 (hts _ (List.mem_of_getElem? (i := 229) (by decide +kernel)))
      exact ⟨(cC, iS), fun q hq => by cases hq; exact hK⟩
    | 12 =>
      obtain ⟨cC, iS, hK⟩ := u_known (C := RX12) (T := TX12) (N := 125) (n := 125) hg cl_12.2.2.2.1 (hts _ (List.mem_of_getElem? (i := 1642) (by decide +kernel)))
      exact ⟨(cC, iS), fun q hq => by cases hq; exact hK⟩
    | k + 13 => exact ⟨(0, fun _ => 0), fun q hq => by simp [kp_cl] at hq⟩
  obtain ⟨dc, hdc⟩ := Classical.axiomOfChoice hcl
  -- arrays
  obtain ⟨cB, kB, pB, b1, b2, b3⟩ := Cond.arrayClass_spec (type := .byte) (hts _ (List.mem_of_getElem? (i := 256) (by decide +kernel)))
  obtain ⟨cI, kI, pI, i1, i2, i3⟩ := Cond.arrayClass_spec (type := .int) (hts _ (List.mem_of_getElem? (i := 257) (by decide +kernel)))
  obtain ⟨cJ, kJ, pJ, j1, j2, j3⟩ := Cond.arrayClass_spec (type := .long) (hts _ (List.mem_of_getElem? (i := 362) (by decide +kernel)))
  obtain ⟨cZ, kZ, pZ, z1, z2, z3⟩ := Cond.arrayClass_spec (type := .boolean) (hts _ (List.mem_of_getElem? (i := 2068) (by decide +kernel)))
  have oF : (Cond.arrayOver (FieldType.object "LockKeepers$Frame")).before #[Value.ref b] s = true := (hts _ (List.mem_of_getElem? (i := 488) (by decide +kernel)))
  have oP : (Cond.arrayOver (FieldType.object "LockKeepers$Part")).before #[Value.ref b] s = true := (hts _ (List.mem_of_getElem? (i := 490) (by decide +kernel)))
  obtain ⟨pF, cF, kF, f1, f2, f3, f4, f5⟩ := Cond.arrayOver_spec oF
  obtain ⟨pP, cP, kP, g1, g2, g3, g4, g5⟩ := Cond.arrayOver_spec oP
  -- texts
  obtain ⟨ad, had⟩ := Classical.axiomOfChoice (kp_strs_at hs hA)
  have hinj : ∀ i j : Nat, i < kp_sN → j < kp_sN → (ad i).1 = (ad j).1 → i = j := by
    intro i j hi hj e
    by_cases hij : i = j
    · exact hij
    · exfalso
      obtain ⟨-, -, -, v1, t1⟩ := had i hi
      obtain ⟨-, -, -, v2, t2⟩ := had j hj
      rw [e] at v1
      have e2 : (ad i).2 = (ad j).2 := by have := kp_same v1 v2; exact Value.ref.inj this
      rw [e2] at t1
      obtain ⟨e3, e4⟩ := kp_sameT (kp_slen_lt i hi) (kp_slen_lt j hj) t1 t2
      obtain ⟨t, ht, hne⟩ := List.any_eq_true.mp (kp_sdist i hi j hj hij e3)
      have e5 := e4 t (List.mem_range.mp ht)
      exact (of_decide_eq_true hne) (Value.int.inj e5)
  have hstr : vk_S kp_sN kp_sl kp_sb (fun i => (ad i).1) (fun i => (ad i).2) (fun q : Nat => s.heap.size ≤ q) s s.heap := ⟨fun i hi => (had i hi).2, hinj⟩
  refine ⟨(fun k => (dc k).1, fun k => (dc k).2), fun k => if k = 13 then cB else if k = 14 then cI else if k = 15 then cJ else if k = 16 then cZ else if k = 17 then cF else cP, (fun i => (ad i).1, fun i => (ad i).2), ⟨hx, hb, hml, hown, hg, ⟨hdc, ?_⟩, fun _ h => h, ?_⟩, ?_, ?_, ?_⟩
  · intro k q hk
    match k, hk with
    | 0, hk => cases hk; exact ⟨fun n z => ⟨fun k h => (by cases h), kB, b2, pB, b3⟩, b1⟩
    | 1, hk => cases hk; exact ⟨fun n z => ⟨fun k h => (by cases h), kI, i2, pI, i3⟩, i1⟩
    | 2, hk => cases hk; exact ⟨fun n z => ⟨fun k h => (by cases h), kJ, j2, pJ, j3⟩, j1⟩
    | 3, hk => cases hk; exact ⟨fun n z => ⟨fun k h => (by cases h), kZ, z2, pZ, z3⟩, z1⟩
    | 4, hk => cases hk; exact ⟨fun n z => ⟨fun k h => (by cases h), kF, f3, pF, f4⟩, kF, pF, f3, f4, f1, f5⟩
    | 5, hk => cases hk; exact ⟨fun n z => ⟨fun k h => (by cases h), kP, g3, pP, g4⟩, kP, pP, g3, g4, g1, g5⟩
    | k + 6, hk => simp [kp_tys] at hk
  · refine ⟨va_AO.of oF, va_AO.of oP, hstr, fun i q hi => ?_, va_Zof (hts _ (List.mem_of_getElem? (i := 280) (by decide +kernel))) (hts _ (List.mem_of_getElem? (i := 208) (by decide +kernel))) (va_eqt (hm 4 _ (by decide +kernel))) hA, va_Zqof (hts _ (List.mem_of_getElem? (i := 296) (by decide +kernel))) (hts _ (List.mem_of_getElem? (i := 210) (by decide +kernel))) (hm 5 _ (by decide +kernel)) hA⟩
    have hil : i < kp_sN := (List.getElem?_eq_some_iff.mp hi).1
    have hev := (had i hil).1
    rw [show kp_tm i = .string q.1 q.2.1 by unfold kp_tm; rw [hi]] at hev
    exact vk_R.of (kp_strw hts i q hi) hev
  · intro k q hk
    match k, hk with
    | 0, hk => cases hk; exact va_Nw.of rfl (hts _ (List.mem_of_getElem? (i := 445) (by decide +kernel)))
    | 1, hk => cases hk; exact va_Nw.of rfl (hts _ (List.mem_of_getElem? (i := 493) (by decide +kernel)))
    | 2, hk => cases hk; exact va_Nw.of rfl (hts _ (List.mem_of_getElem? (i := 515) (by decide +kernel)))
    | 3, hk => cases hk; exact va_Nw.of rfl (hts _ (List.mem_of_getElem? (i := 538) (by decide +kernel)))
    | 4, hk => cases hk; exact va_Nw.of rfl (hts _ (List.mem_of_getElem? (i := 543) (by decide +kernel)))
    | 5, hk => cases hk; exact va_Nw.of rfl (hts _ (List.mem_of_getElem? (i := 365) (by decide +kernel)))
    | k + 6, hk => simp [kp_nl] at hk
  · refine ⟨vx_Zqof (hts _ (List.mem_of_getElem? (i := 1289) (by decide +kernel))) (hts _ (List.mem_of_getElem? (i := 223) (by decide +kernel))) (hm 9 _ (by decide +kernel)) hA, vx_Zqof (hts _ (List.mem_of_getElem? (i := 1291) (by decide +kernel))) (hts _ (List.mem_of_getElem? (i := 223) (by decide +kernel))) (hm 10 _ (by decide +kernel)) hA, va_Nw.of rfl (hts _ (List.mem_of_getElem? (i := 1264) (by decide +kernel))), va_Nw.of rfl (hts _ (List.mem_of_getElem? (i := 1326) (by decide +kernel))), va_Nc.of (hm 24 _ (by decide +kernel)), fun y hy => ?_⟩
    simp only [kp_dl, List.mem_cons, List.not_mem_nil, or_false] at hy
    rcases hy with rfl | rfl | rfl
    · exact va_Nw.of rfl (hts _ (List.mem_of_getElem? (i := 1265) (by decide +kernel)))
    · exact va_Nw.of rfl (hts _ (List.mem_of_getElem? (i := 1267) (by decide +kernel)))
    · exact va_Nw.of rfl (hts _ (List.mem_of_getElem? (i := 1269) (by decide +kernel)))
  · refine ⟨fun k q h => by simp [kp_pl, kp_0, kp_L, va_pl] at h, ⟨fun i j p q h => by simp [kp_pl, kp_0, kp_L, va_pl] at h, fun k q h => by simp [kp_pl, kp_0, kp_L, va_pl] at h⟩, va_S.rf, fun a c k b h => by simp [kp_is, kp_0, kp_L] at h, fun a c k b h => by simp [kp_is, kp_0, kp_L] at h⟩
