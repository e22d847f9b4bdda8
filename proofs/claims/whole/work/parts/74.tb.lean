set_option maxRecDepth 100000 in
theorem tb_wlM0 : ∀ w ∈ wlM0, w ∈ lw_tbl := by decide +kernel
set_option maxRecDepth 100000 in
theorem tb_wlM1 : ∀ w ∈ wlM1, w ∈ lw_tbl := by decide +kernel
set_option maxRecDepth 100000 in
theorem tb_wlM2 : ∀ w ∈ wlM2, w ∈ lw_tbl := by decide +kernel
set_option maxRecDepth 100000 in
theorem tb_wlM3 : ∀ w ∈ wlM3, w ∈ lw_tbl := by decide +kernel
set_option maxRecDepth 100000 in
theorem tb_wlM4 : ∀ w ∈ wlM4, w ∈ lw_tbl := by decide +kernel
set_option maxRecDepth 100000 in
theorem tb_wlM5 : ∀ w ∈ wlM5, w ∈ lw_tbl := by decide +kernel
set_option maxRecDepth 100000 in
theorem tb_wlM6 : ∀ w ∈ wlM6, w ∈ lw_tbl := by decide +kernel
set_option maxRecDepth 100000 in
theorem tb_wlM7 : ∀ w ∈ wlM7, w ∈ lw_tbl := by decide +kernel
set_option maxRecDepth 100000 in
theorem tb_wlM8 : ∀ w ∈ wlM8, w ∈ lw_tbl := by decide +kernel
set_option maxRecDepth 100000 in
theorem tb_wcX : ∀ w ∈ wcX, w ∈ lw_tbl := by decide +kernel
set_option maxRecDepth 100000 in
theorem tb_wcG : ∀ w ∈ wcG, w ∈ lw_tbl := by decide +kernel
set_option maxRecDepth 100000 in
theorem tb_wcM : ∀ w ∈ wcM, w ∈ lw_tbl := by decide +kernel
set_option maxRecDepth 100000 in
theorem tb_wThr : ∀ w ∈ wThr, w ∈ lw_tbl := by decide +kernel
set_option maxRecDepth 100000 in
theorem tb_wlE0 : ∀ w ∈ wlE0, w ∈ lw_tbl := by decide +kernel
set_option maxRecDepth 100000 in
theorem tb_wlE1 : ∀ w ∈ wlE1, w ∈ lw_tbl := by decide +kernel
set_option maxRecDepth 100000 in
theorem tb_wlE2 : ∀ w ∈ wlE2, w ∈ lw_tbl := by decide +kernel
set_option maxRecDepth 100000 in
theorem tb_wlE3 : ∀ w ∈ wlE3, w ∈ lw_tbl := by decide +kernel
theorem tb_all : ∀ w ∈ wLaw, w ∈ lw_tbl := List.forall_mem_append.mpr ⟨tb_wlM0, List.forall_mem_append.mpr ⟨tb_wlM1, List.forall_mem_append.mpr ⟨tb_wlM2, List.forall_mem_append.mpr ⟨tb_wlM3, List.forall_mem_append.mpr ⟨tb_wlM4, List.forall_mem_append.mpr ⟨tb_wlM5, List.forall_mem_append.mpr ⟨tb_wlM6, List.forall_mem_append.mpr ⟨tb_wlM7, List.forall_mem_append.mpr ⟨tb_wlM8, List.forall_mem_append.mpr ⟨tb_wcX, List.forall_mem_append.mpr ⟨tb_wcG, List.forall_mem_append.mpr ⟨tb_wcM, List.forall_mem_append.mpr ⟨tb_wThr, List.forall_mem_append.mpr ⟨tb_wlE0, List.forall_mem_append.mpr ⟨tb_wlE1, List.forall_mem_append.mpr ⟨tb_wlE2, tb_wlE3⟩⟩⟩⟩⟩⟩⟩⟩⟩⟩⟩⟩⟩⟩⟩⟩
