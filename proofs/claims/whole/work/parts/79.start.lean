/-! What the Statement gives at the law's entry. -/
abbrev A0 (s : State) : Nat → Prop := fun q => s.heap.size ≤ q
abbrev gv : Cond := Jvm.Cond.and given_1 narrow_1
set_option maxRecDepth 100000 in
theorem st_str : ∀ q ∈ XS, Cond.stringRef RcX q.1 q.2 ∈ lw_tbl := by decide +kernel
set_option maxRecDepth 100000 in
theorem st_exa : ∀ q ∈ XS, Cond.exactly (.string RcX q.1) "java/lang/String" ∈ flatC gv := by decide +kernel
set_option maxRecDepth 100000 in
theorem st_XN : ∀ w ∈ XN, w ∈ lw_tbl := by decide +kernel
set_option maxRecDepth 100000 in
theorem st_nc : ∀ x ∈ eAll, ∀ y ∈ eAll, x ≠ y → Cond.not (.castable x y) ∈ flatC gv := by decide +kernel
set_option maxRecDepth 100000 in
theorem st_z : Cond.laysStatic Bundle.tN "UNASSIGNED_STACK" Bundle.steD ∈ lw_tbl ∧ Cond.laysStatic Bundle.tN "SUPPRESSED_SENTINEL" Bundle.listD ∈ lw_tbl ∧ Cond.initialized Bundle.tN ∈ lw_tbl ∧ Cond.isRef (.static Bundle.tN "UNASSIGNED_STACK" Bundle.steD) ∈ flatC gv ∧ Cond.isRef (.static Bundle.tN "SUPPRESSED_SENTINEL" Bundle.listD) ∈ flatC gv := by decide +kernel
theorem st_Y {s : State} {args : Array Value} (hts : ∀ w ∈ lw_tbl, w.before args s = true) (hgv : gv.before args s = true) : YP (A0 s) s s.heap := by
  have hs := flat_of_before _ hgv
  have hA : ∀ a : Nat, a < s.heap.size → ¬ A0 s a := fun a h => Nat.not_le.mpr h
  refine ⟨⟨vx_Zqof (hts _ st_z.1) (hts _ st_z.2.2.1) (hs _ st_z.2.2.2.1) hA, vx_Zqof (hts _ st_z.2.1) (hts _ st_z.2.2.1) (hs _ st_z.2.2.2.2) hA, fun q hq => ?_, fun w hw => va_Nw.of (XN_on w hw) (hts w (st_XN w hw))⟩, fun x hx y hy hn => va_Nc.of (hs _ (st_nc x hx y hy hn))⟩
  obtain ⟨a, c, cell, k, q1, -⟩ := Cond.exactly_spec (args := args) (first := s) (o := none) (s := s) (idx := []) (hs _ (st_exa q hq))
  exact ⟨a, vk_R.of (hts _ (st_str q hq)) q1⟩
theorem st_arr {s : State} {args : Array Value} {ty : FieldType} (h : (Cond.arrayClass ty).before args s = true) : ∃ cA : ClassId, ArrOfT s cA ty ∧ s.vm.findClass ("[" ++ ty.toString) = some cA := by
  obtain ⟨c, k, comp, h1, h2, h3⟩ := Cond.arrayClass_spec (args := args) (first := s) (o := none) (s := s) (idx := []) h
  exact ⟨c, fun n z => ⟨fun k h => (by cases h), k, h2, comp, h3⟩, h1⟩
theorem lw_in {c : Cond} (h : c ∈ wLaw) : c ∈ lw_tbl := tb_all c h
theorem st_K {s : State} {args : Array Value} (hts : ∀ w ∈ wLaw, w.before args s = true) : ∃ (D : va_G) (cI cZ cJ : ClassId), va_K D vwCl (tyG cI cZ cJ) s := by
  obtain ⟨cX, iX, hX⟩ := u_known (C := RcX) (T := TcX) (N := 16) (n := 16) hts (by decide +kernel) (hts (.instantiable RcX 16) (by decide +kernel))
  obtain ⟨cG, iG, hG⟩ := u_known (C := RcG) (T := TcG) (N := 3) (n := 3) hts (by decide +kernel) (hts (.instantiable RcG 3) (by decide +kernel))
  obtain ⟨cM, iM, hM⟩ := u_known (C := RcM) (T := TcM) (N := 18) (n := 18) hts (by decide +kernel) (hts (.instantiable RcM 18) (by decide +kernel))
  obtain ⟨cI, hI1, hI2⟩ := st_arr (hts (.arrayClass .int) (by decide +kernel))
  obtain ⟨cZ, hZ1, hZ2⟩ := st_arr (hts (.arrayClass .boolean) (by decide +kernel))
  obtain ⟨cJ, hJ1, hJ2⟩ := st_arr (hts (.arrayClass .long) (by decide +kernel))
  refine ⟨(fun k => match k with | 0 => cX | 1 => cG | _ => cM, fun k => match k with | 0 => iX | 1 => iG | _ => iM), cI, cZ, cJ, fun c q hq => ?_, fun k q hk => ?_⟩
  · match c, hq with
    | 0, hq => cases hq; exact hX
    | 1, hq => cases hq; exact hG
    | 2, hq => cases hq; exact hM
    | n + 3, hq => exact absurd hq (by simp)
  · match k, hk with
    | 0, hk => cases hk; exact ⟨hI1, hI2⟩
    | 1, hk => cases hk; exact ⟨hZ1, hZ2⟩
    | 2, hk => cases hk; exact ⟨hJ1, hJ2⟩
    | n + 3, hk => exact absurd hk (by simp)
theorem lt_sub4 {L i : Nat} (hL : L ≤ 2050) (hi : i < 4000) (h : ¬ (Int32.ofNat L - 4 < nI i)) : i + 4 ≤ L := by
  rcases Nat.lt_or_ge L 4 with h4 | h4
  · exfalso
    apply h
    rw [Int32.lt_iff_toInt_lt, nI_toInt (by omega)]
    have : (Int32.ofNat L - 4).toInt < 0 := by
      have h5 : L = 0 ∨ L = 1 ∨ L = 2 ∨ L = 3 := by omega
      rcases h5 with rfl | rfl | rfl | rfl <;> decide
    omega
  · have e : Int32.ofNat L - 4 = nI (L - 4) := pk_sub (a := L) (b := 4) h4
    rw [e] at h
    rcases Nat.lt_or_ge (L - 4) i with h5 | h5
    · exact absurd (nI_lt h5 (by omega)) h
    · omega
theorem and15 (x : Int32) : ∃ k, k < 16 ∧ x &&& 15 = nI k := by
  refine ⟨x.toBitVec.toNat % 16, Nat.mod_lt _ (by decide), ?_⟩
  apply Int32.toBitVec_inj.mp
  apply BitVec.eq_of_toNat_eq
  rw [Int32.toBitVec_and, BitVec.toNat_and]
  have h15 : (15 : Int32).toBitVec.toNat = 2 ^ 4 - 1 := by decide
  rw [h15, Nat.and_two_pow_sub_one_eq_mod]
  show _ = (BitVec.ofNat 32 (x.toBitVec.toNat % 16)).toNat
  rw [BitVec.toNat_ofNat]
  have : x.toBitVec.toNat % 16 < 16 := Nat.mod_lt _ (by decide)
  omega
theorem vp_cel {L : Nat} {k : Int32} (hL : L ≤ 2050) (hk : k = 0 ∨ k = 1) (h : ¬ Int32.ofNat L ≤ k) : vp_in k L := by
  have hl : (Int32.ofNat L).toInt = (L : Int) := nI_toInt (n := L) (by omega)
  rw [Int32.le_iff_toInt_le, hl] at h
  rw [vp_in_iff]
  rcases hk with rfl | rfl
  · have : (0 : Int32).toInt = 0 := by decide
    omega
  · have : (1 : Int32).toInt = 1 := by decide
    omega
def FAall (Rel : FT → AT → FT → AT → Prop) : Prop := FA_arc Rel ∧ FA_plan Rel ∧ FA_leaders Rel ∧ FA_conform Rel ∧ FA_act Rel ∧ FA_run Rel ∧ FA_deploy Rel ∧ FA_step Rel ∧ FA_show Rel ∧ FA_clear Rel ∧ FA_back Rel ∧ FA_pass Rel ∧ FA_state Rel ∧ FA_open Rel ∧ FA_key Rel ∧ FA_outcome Rel
def BaseF (Rel : FT → AT → FT → AT → Prop) : Prop := ∀ (F : FT) (a : AT) (G : FT) (c : AT), Rel F a G c → ∃ n P E mm : Nat, RB Rel n P E mm F a G c
