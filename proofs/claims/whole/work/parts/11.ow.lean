/-! the world of OwnMemory: its fields, the rows of words, roots, names, pending -/
abbrev oS : Type := Int32 × Nat × (Nat → Int32) × Int32 × (Nat → Int32) × Nat × (Nat → Int32) × Int32 × (Nat → Int32) × Int32 × Int32 × Int32
def o_lim (σ : oS) : Int32 := σ.1
def o_lw (σ : oS) : Nat := σ.2.1
def o_fw (σ : oS) : Nat → Int32 := σ.2.2.1
def o_us (σ : oS) : Int32 := σ.2.2.2.1
def o_fr (σ : oS) : Nat → Int32 := σ.2.2.2.2.1
def o_ln (σ : oS) : Nat := σ.2.2.2.2.2.1
def o_fn (σ : oS) : Nat → Int32 := σ.2.2.2.2.2.2.1
def o_nc (σ : oS) : Int32 := σ.2.2.2.2.2.2.2.1
def o_fp (σ : oS) : Nat → Int32 := σ.2.2.2.2.2.2.2.2.1
def o_wt (σ : oS) : Int32 := σ.2.2.2.2.2.2.2.2.2.1
def o_st (σ : oS) : Int32 := σ.2.2.2.2.2.2.2.2.2.2.1
def o_md (σ : oS) : Int32 := σ.2.2.2.2.2.2.2.2.2.2.2
def o_s_lim (σ : oS) (x : Int32) : oS := (x, σ.2.1, σ.2.2.1, σ.2.2.2.1, σ.2.2.2.2.1, σ.2.2.2.2.2.1, σ.2.2.2.2.2.2.1, σ.2.2.2.2.2.2.2.1, σ.2.2.2.2.2.2.2.2.1, σ.2.2.2.2.2.2.2.2.2.1, σ.2.2.2.2.2.2.2.2.2.2.1, σ.2.2.2.2.2.2.2.2.2.2.2)
def o_s_lw (σ : oS) (x : Nat) : oS := (σ.1, x, σ.2.2.1, σ.2.2.2.1, σ.2.2.2.2.1, σ.2.2.2.2.2.1, σ.2.2.2.2.2.2.1, σ.2.2.2.2.2.2.2.1, σ.2.2.2.2.2.2.2.2.1, σ.2.2.2.2.2.2.2.2.2.1, σ.2.2.2.2.2.2.2.2.2.2.1, σ.2.2.2.2.2.2.2.2.2.2.2)
def o_s_fw (σ : oS) (x : Nat → Int32) : oS := (σ.1, σ.2.1, x, σ.2.2.2.1, σ.2.2.2.2.1, σ.2.2.2.2.2.1, σ.2.2.2.2.2.2.1, σ.2.2.2.2.2.2.2.1, σ.2.2.2.2.2.2.2.2.1, σ.2.2.2.2.2.2.2.2.2.1, σ.2.2.2.2.2.2.2.2.2.2.1, σ.2.2.2.2.2.2.2.2.2.2.2)
def o_s_us (σ : oS) (x : Int32) : oS := (σ.1, σ.2.1, σ.2.2.1, x, σ.2.2.2.2.1, σ.2.2.2.2.2.1, σ.2.2.2.2.2.2.1, σ.2.2.2.2.2.2.2.1, σ.2.2.2.2.2.2.2.2.1, σ.2.2.2.2.2.2.2.2.2.1, σ.2.2.2.2.2.2.2.2.2.2.1, σ.2.2.2.2.2.2.2.2.2.2.2)
def o_s_fr (σ : oS) (x : Nat → Int32) : oS := (σ.1, σ.2.1, σ.2.2.1, σ.2.2.2.1, x, σ.2.2.2.2.2.1, σ.2.2.2.2.2.2.1, σ.2.2.2.2.2.2.2.1, σ.2.2.2.2.2.2.2.2.1, σ.2.2.2.2.2.2.2.2.2.1, σ.2.2.2.2.2.2.2.2.2.2.1, σ.2.2.2.2.2.2.2.2.2.2.2)
def o_s_ln (σ : oS) (x : Nat) : oS := (σ.1, σ.2.1, σ.2.2.1, σ.2.2.2.1, σ.2.2.2.2.1, x, σ.2.2.2.2.2.2.1, σ.2.2.2.2.2.2.2.1, σ.2.2.2.2.2.2.2.2.1, σ.2.2.2.2.2.2.2.2.2.1, σ.2.2.2.2.2.2.2.2.2.2.1, σ.2.2.2.2.2.2.2.2.2.2.2)
def o_s_fn (σ : oS) (x : Nat → Int32) : oS := (σ.1, σ.2.1, σ.2.2.1, σ.2.2.2.1, σ.2.2.2.2.1, σ.2.2.2.2.2.1, x, σ.2.2.2.2.2.2.2.1, σ.2.2.2.2.2.2.2.2.1, σ.2.2.2.2.2.2.2.2.2.1, σ.2.2.2.2.2.2.2.2.2.2.1, σ.2.2.2.2.2.2.2.2.2.2.2)
def o_s_nc (σ : oS) (x : Int32) : oS := (σ.1, σ.2.1, σ.2.2.1, σ.2.2.2.1, σ.2.2.2.2.1, σ.2.2.2.2.2.1, σ.2.2.2.2.2.2.1, x, σ.2.2.2.2.2.2.2.2.1, σ.2.2.2.2.2.2.2.2.2.1, σ.2.2.2.2.2.2.2.2.2.2.1, σ.2.2.2.2.2.2.2.2.2.2.2)
def o_s_fp (σ : oS) (x : Nat → Int32) : oS := (σ.1, σ.2.1, σ.2.2.1, σ.2.2.2.1, σ.2.2.2.2.1, σ.2.2.2.2.2.1, σ.2.2.2.2.2.2.1, σ.2.2.2.2.2.2.2.1, x, σ.2.2.2.2.2.2.2.2.2.1, σ.2.2.2.2.2.2.2.2.2.2.1, σ.2.2.2.2.2.2.2.2.2.2.2)
def o_s_wt (σ : oS) (x : Int32) : oS := (σ.1, σ.2.1, σ.2.2.1, σ.2.2.2.1, σ.2.2.2.2.1, σ.2.2.2.2.2.1, σ.2.2.2.2.2.2.1, σ.2.2.2.2.2.2.2.1, σ.2.2.2.2.2.2.2.2.1, x, σ.2.2.2.2.2.2.2.2.2.2.1, σ.2.2.2.2.2.2.2.2.2.2.2)
def o_s_st (σ : oS) (x : Int32) : oS := (σ.1, σ.2.1, σ.2.2.1, σ.2.2.2.1, σ.2.2.2.2.1, σ.2.2.2.2.2.1, σ.2.2.2.2.2.2.1, σ.2.2.2.2.2.2.2.1, σ.2.2.2.2.2.2.2.2.1, σ.2.2.2.2.2.2.2.2.2.1, x, σ.2.2.2.2.2.2.2.2.2.2.2)
def o_s_md (σ : oS) (x : Int32) : oS := (σ.1, σ.2.1, σ.2.2.1, σ.2.2.2.1, σ.2.2.2.2.1, σ.2.2.2.2.2.1, σ.2.2.2.2.2.2.1, σ.2.2.2.2.2.2.2.1, σ.2.2.2.2.2.2.2.2.1, σ.2.2.2.2.2.2.2.2.2.1, σ.2.2.2.2.2.2.2.2.2.2.1, x)
theorem o_gs_lim_lim (σ : oS) (x : Int32) : o_lim (o_s_lim σ x) = x := rfl
theorem o_gs_lw_lim (σ : oS) (x : Int32) : o_lw (o_s_lim σ x) = o_lw σ := rfl
theorem o_gs_fw_lim (σ : oS) (x : Int32) : o_fw (o_s_lim σ x) = o_fw σ := rfl
theorem o_gs_us_lim (σ : oS) (x : Int32) : o_us (o_s_lim σ x) = o_us σ := rfl
theorem o_gs_fr_lim (σ : oS) (x : Int32) : o_fr (o_s_lim σ x) = o_fr σ := rfl
theorem o_gs_ln_lim (σ : oS) (x : Int32) : o_ln (o_s_lim σ x) = o_ln σ := rfl
theorem o_gs_fn_lim (σ : oS) (x : Int32) : o_fn (o_s_lim σ x) = o_fn σ := rfl
theorem o_gs_nc_lim (σ : oS) (x : Int32) : o_nc (o_s_lim σ x) = o_nc σ := rfl
theorem o_gs_fp_lim (σ : oS) (x : Int32) : o_fp (o_s_lim σ x) = o_fp σ := rfl
theorem o_gs_wt_lim (σ : oS) (x : Int32) : o_wt (o_s_lim σ x) = o_wt σ := rfl
theorem o_gs_st_lim (σ : oS) (x : Int32) : o_st (o_s_lim σ x) = o_st σ := rfl
theorem o_gs_md_lim (σ : oS) (x : Int32) : o_md (o_s_lim σ x) = o_md σ := rfl
theorem o_gs_lim_lw (σ : oS) (x : Nat) : o_lim (o_s_lw σ x) = o_lim σ := rfl
theorem o_gs_lw_lw (σ : oS) (x : Nat) : o_lw (o_s_lw σ x) = x := rfl
theorem o_gs_fw_lw (σ : oS) (x : Nat) : o_fw (o_s_lw σ x) = o_fw σ := rfl
theorem o_gs_us_lw (σ : oS) (x : Nat) : o_us (o_s_lw σ x) = o_us σ := rfl
theorem o_gs_fr_lw (σ : oS) (x : Nat) : o_fr (o_s_lw σ x) = o_fr σ := rfl
theorem o_gs_ln_lw (σ : oS) (x : Nat) : o_ln (o_s_lw σ x) = o_ln σ := rfl
theorem o_gs_fn_lw (σ : oS) (x : Nat) : o_fn (o_s_lw σ x) = o_fn σ := rfl
theorem o_gs_nc_lw (σ : oS) (x : Nat) : o_nc (o_s_lw σ x) = o_nc σ := rfl
theorem o_gs_fp_lw (σ : oS) (x : Nat) : o_fp (o_s_lw σ x) = o_fp σ := rfl
theorem o_gs_wt_lw (σ : oS) (x : Nat) : o_wt (o_s_lw σ x) = o_wt σ := rfl
theorem o_gs_st_lw (σ : oS) (x : Nat) : o_st (o_s_lw σ x) = o_st σ := rfl
theorem o_gs_md_lw (σ : oS) (x : Nat) : o_md (o_s_lw σ x) = o_md σ := rfl
theorem o_gs_lim_fw (σ : oS) (x : Nat → Int32) : o_lim (o_s_fw σ x) = o_lim σ := rfl
theorem o_gs_lw_fw (σ : oS) (x : Nat → Int32) : o_lw (o_s_fw σ x) = o_lw σ := rfl
theorem o_gs_fw_fw (σ : oS) (x : Nat → Int32) : o_fw (o_s_fw σ x) = x := rfl
theorem o_gs_us_fw (σ : oS) (x : Nat → Int32) : o_us (o_s_fw σ x) = o_us σ := rfl
theorem o_gs_fr_fw (σ : oS) (x : Nat → Int32) : o_fr (o_s_fw σ x) = o_fr σ := rfl
theorem o_gs_ln_fw (σ : oS) (x : Nat → Int32) : o_ln (o_s_fw σ x) = o_ln σ := rfl
theorem o_gs_fn_fw (σ : oS) (x : Nat → Int32) : o_fn (o_s_fw σ x) = o_fn σ := rfl
theorem o_gs_nc_fw (σ : oS) (x : Nat → Int32) : o_nc (o_s_fw σ x) = o_nc σ := rfl
theorem o_gs_fp_fw (σ : oS) (x : Nat → Int32) : o_fp (o_s_fw σ x) = o_fp σ := rfl
theorem o_gs_wt_fw (σ : oS) (x : Nat → Int32) : o_wt (o_s_fw σ x) = o_wt σ := rfl
theorem o_gs_st_fw (σ : oS) (x : Nat → Int32) : o_st (o_s_fw σ x) = o_st σ := rfl
theorem o_gs_md_fw (σ : oS) (x : Nat → Int32) : o_md (o_s_fw σ x) = o_md σ := rfl
theorem o_gs_lim_us (σ : oS) (x : Int32) : o_lim (o_s_us σ x) = o_lim σ := rfl
theorem o_gs_lw_us (σ : oS) (x : Int32) : o_lw (o_s_us σ x) = o_lw σ := rfl
theorem o_gs_fw_us (σ : oS) (x : Int32) : o_fw (o_s_us σ x) = o_fw σ := rfl
theorem o_gs_us_us (σ : oS) (x : Int32) : o_us (o_s_us σ x) = x := rfl
theorem o_gs_fr_us (σ : oS) (x : Int32) : o_fr (o_s_us σ x) = o_fr σ := rfl
theorem o_gs_ln_us (σ : oS) (x : Int32) : o_ln (o_s_us σ x) = o_ln σ := rfl
theorem o_gs_fn_us (σ : oS) (x : Int32) : o_fn (o_s_us σ x) = o_fn σ := rfl
theorem o_gs_nc_us (σ : oS) (x : Int32) : o_nc (o_s_us σ x) = o_nc σ := rfl
theorem o_gs_fp_us (σ : oS) (x : Int32) : o_fp (o_s_us σ x) = o_fp σ := rfl
theorem o_gs_wt_us (σ : oS) (x : Int32) : o_wt (o_s_us σ x) = o_wt σ := rfl
theorem o_gs_st_us (σ : oS) (x : Int32) : o_st (o_s_us σ x) = o_st σ := rfl
theorem o_gs_md_us (σ : oS) (x : Int32) : o_md (o_s_us σ x) = o_md σ := rfl
theorem o_gs_lim_fr (σ : oS) (x : Nat → Int32) : o_lim (o_s_fr σ x) = o_lim σ := rfl
theorem o_gs_lw_fr (σ : oS) (x : Nat → Int32) : o_lw (o_s_fr σ x) = o_lw σ := rfl
theorem o_gs_fw_fr (σ : oS) (x : Nat → Int32) : o_fw (o_s_fr σ x) = o_fw σ := rfl
theorem o_gs_us_fr (σ : oS) (x : Nat → Int32) : o_us (o_s_fr σ x) = o_us σ := rfl
theorem o_gs_fr_fr (σ : oS) (x : Nat → Int32) : o_fr (o_s_fr σ x) = x := rfl
theorem o_gs_ln_fr (σ : oS) (x : Nat → Int32) : o_ln (o_s_fr σ x) = o_ln σ := rfl
theorem o_gs_fn_fr (σ : oS) (x : Nat → Int32) : o_fn (o_s_fr σ x) = o_fn σ := rfl
theorem o_gs_nc_fr (σ : oS) (x : Nat → Int32) : o_nc (o_s_fr σ x) = o_nc σ := rfl
theorem o_gs_fp_fr (σ : oS) (x : Nat → Int32) : o_fp (o_s_fr σ x) = o_fp σ := rfl
theorem o_gs_wt_fr (σ : oS) (x : Nat → Int32) : o_wt (o_s_fr σ x) = o_wt σ := rfl
theorem o_gs_st_fr (σ : oS) (x : Nat → Int32) : o_st (o_s_fr σ x) = o_st σ := rfl
theorem o_gs_md_fr (σ : oS) (x : Nat → Int32) : o_md (o_s_fr σ x) = o_md σ := rfl
theorem o_gs_lim_ln (σ : oS) (x : Nat) : o_lim (o_s_ln σ x) = o_lim σ := rfl
theorem o_gs_lw_ln (σ : oS) (x : Nat) : o_lw (o_s_ln σ x) = o_lw σ := rfl
theorem o_gs_fw_ln (σ : oS) (x : Nat) : o_fw (o_s_ln σ x) = o_fw σ := rfl
theorem o_gs_us_ln (σ : oS) (x : Nat) : o_us (o_s_ln σ x) = o_us σ := rfl
theorem o_gs_fr_ln (σ : oS) (x : Nat) : o_fr (o_s_ln σ x) = o_fr σ := rfl
theorem o_gs_ln_ln (σ : oS) (x : Nat) : o_ln (o_s_ln σ x) = x := rfl
theorem o_gs_fn_ln (σ : oS) (x : Nat) : o_fn (o_s_ln σ x) = o_fn σ := rfl
theorem o_gs_nc_ln (σ : oS) (x : Nat) : o_nc (o_s_ln σ x) = o_nc σ := rfl
theorem o_gs_fp_ln (σ : oS) (x : Nat) : o_fp (o_s_ln σ x) = o_fp σ := rfl
theorem o_gs_wt_ln (σ : oS) (x : Nat) : o_wt (o_s_ln σ x) = o_wt σ := rfl
theorem o_gs_st_ln (σ : oS) (x : Nat) : o_st (o_s_ln σ x) = o_st σ := rfl
theorem o_gs_md_ln (σ : oS) (x : Nat) : o_md (o_s_ln σ x) = o_md σ := rfl
theorem o_gs_lim_fn (σ : oS) (x : Nat → Int32) : o_lim (o_s_fn σ x) = o_lim σ := rfl
theorem o_gs_lw_fn (σ : oS) (x : Nat → Int32) : o_lw (o_s_fn σ x) = o_lw σ := rfl
theorem o_gs_fw_fn (σ : oS) (x : Nat → Int32) : o_fw (o_s_fn σ x) = o_fw σ := rfl
theorem o_gs_us_fn (σ : oS) (x : Nat → Int32) : o_us (o_s_fn σ x) = o_us σ := rfl
theorem o_gs_fr_fn (σ : oS) (x : Nat → Int32) : o_fr (o_s_fn σ x) = o_fr σ := rfl
theorem o_gs_ln_fn (σ : oS) (x : Nat → Int32) : o_ln (o_s_fn σ x) = o_ln σ := rfl
theorem o_gs_fn_fn (σ : oS) (x : Nat → Int32) : o_fn (o_s_fn σ x) = x := rfl
theorem o_gs_nc_fn (σ : oS) (x : Nat → Int32) : o_nc (o_s_fn σ x) = o_nc σ := rfl
theorem o_gs_fp_fn (σ : oS) (x : Nat → Int32) : o_fp (o_s_fn σ x) = o_fp σ := rfl
theorem o_gs_wt_fn (σ : oS) (x : Nat → Int32) : o_wt (o_s_fn σ x) = o_wt σ := rfl
theorem o_gs_st_fn (σ : oS) (x : Nat → Int32) : o_st (o_s_fn σ x) = o_st σ := rfl
theorem o_gs_md_fn (σ : oS) (x : Nat → Int32) : o_md (o_s_fn σ x) = o_md σ := rfl
theorem o_gs_lim_nc (σ : oS) (x : Int32) : o_lim (o_s_nc σ x) = o_lim σ := rfl
theorem o_gs_lw_nc (σ : oS) (x : Int32) : o_lw (o_s_nc σ x) = o_lw σ := rfl
theorem o_gs_fw_nc (σ : oS) (x : Int32) : o_fw (o_s_nc σ x) = o_fw σ := rfl
theorem o_gs_us_nc (σ : oS) (x : Int32) : o_us (o_s_nc σ x) = o_us σ := rfl
theorem o_gs_fr_nc (σ : oS) (x : Int32) : o_fr (o_s_nc σ x) = o_fr σ := rfl
theorem o_gs_ln_nc (σ : oS) (x : Int32) : o_ln (o_s_nc σ x) = o_ln σ := rfl
theorem o_gs_fn_nc (σ : oS) (x : Int32) : o_fn (o_s_nc σ x) = o_fn σ := rfl
theorem o_gs_nc_nc (σ : oS) (x : Int32) : o_nc (o_s_nc σ x) = x := rfl
theorem o_gs_fp_nc (σ : oS) (x : Int32) : o_fp (o_s_nc σ x) = o_fp σ := rfl
theorem o_gs_wt_nc (σ : oS) (x : Int32) : o_wt (o_s_nc σ x) = o_wt σ := rfl
theorem o_gs_st_nc (σ : oS) (x : Int32) : o_st (o_s_nc σ x) = o_st σ := rfl
theorem o_gs_md_nc (σ : oS) (x : Int32) : o_md (o_s_nc σ x) = o_md σ := rfl
theorem o_gs_lim_fp (σ : oS) (x : Nat → Int32) : o_lim (o_s_fp σ x) = o_lim σ := rfl
theorem o_gs_lw_fp (σ : oS) (x : Nat → Int32) : o_lw (o_s_fp σ x) = o_lw σ := rfl
theorem o_gs_fw_fp (σ : oS) (x : Nat → Int32) : o_fw (o_s_fp σ x) = o_fw σ := rfl
theorem o_gs_us_fp (σ : oS) (x : Nat → Int32) : o_us (o_s_fp σ x) = o_us σ := rfl
theorem o_gs_fr_fp (σ : oS) (x : Nat → Int32) : o_fr (o_s_fp σ x) = o_fr σ := rfl
theorem o_gs_ln_fp (σ : oS) (x : Nat → Int32) : o_ln (o_s_fp σ x) = o_ln σ := rfl
theorem o_gs_fn_fp (σ : oS) (x : Nat → Int32) : o_fn (o_s_fp σ x) = o_fn σ := rfl
theorem o_gs_nc_fp (σ : oS) (x : Nat → Int32) : o_nc (o_s_fp σ x) = o_nc σ := rfl
theorem o_gs_fp_fp (σ : oS) (x : Nat → Int32) : o_fp (o_s_fp σ x) = x := rfl
theorem o_gs_wt_fp (σ : oS) (x : Nat → Int32) : o_wt (o_s_fp σ x) = o_wt σ := rfl
theorem o_gs_st_fp (σ : oS) (x : Nat → Int32) : o_st (o_s_fp σ x) = o_st σ := rfl
theorem o_gs_md_fp (σ : oS) (x : Nat → Int32) : o_md (o_s_fp σ x) = o_md σ := rfl
theorem o_gs_lim_wt (σ : oS) (x : Int32) : o_lim (o_s_wt σ x) = o_lim σ := rfl
theorem o_gs_lw_wt (σ : oS) (x : Int32) : o_lw (o_s_wt σ x) = o_lw σ := rfl
theorem o_gs_fw_wt (σ : oS) (x : Int32) : o_fw (o_s_wt σ x) = o_fw σ := rfl
theorem o_gs_us_wt (σ : oS) (x : Int32) : o_us (o_s_wt σ x) = o_us σ := rfl
theorem o_gs_fr_wt (σ : oS) (x : Int32) : o_fr (o_s_wt σ x) = o_fr σ := rfl
theorem o_gs_ln_wt (σ : oS) (x : Int32) : o_ln (o_s_wt σ x) = o_ln σ := rfl
theorem o_gs_fn_wt (σ : oS) (x : Int32) : o_fn (o_s_wt σ x) = o_fn σ := rfl
theorem o_gs_nc_wt (σ : oS) (x : Int32) : o_nc (o_s_wt σ x) = o_nc σ := rfl
theorem o_gs_fp_wt (σ : oS) (x : Int32) : o_fp (o_s_wt σ x) = o_fp σ := rfl
theorem o_gs_wt_wt (σ : oS) (x : Int32) : o_wt (o_s_wt σ x) = x := rfl
theorem o_gs_st_wt (σ : oS) (x : Int32) : o_st (o_s_wt σ x) = o_st σ := rfl
theorem o_gs_md_wt (σ : oS) (x : Int32) : o_md (o_s_wt σ x) = o_md σ := rfl
theorem o_gs_lim_st (σ : oS) (x : Int32) : o_lim (o_s_st σ x) = o_lim σ := rfl
theorem o_gs_lw_st (σ : oS) (x : Int32) : o_lw (o_s_st σ x) = o_lw σ := rfl
theorem o_gs_fw_st (σ : oS) (x : Int32) : o_fw (o_s_st σ x) = o_fw σ := rfl
theorem o_gs_us_st (σ : oS) (x : Int32) : o_us (o_s_st σ x) = o_us σ := rfl
theorem o_gs_fr_st (σ : oS) (x : Int32) : o_fr (o_s_st σ x) = o_fr σ := rfl
theorem o_gs_ln_st (σ : oS) (x : Int32) : o_ln (o_s_st σ x) = o_ln σ := rfl
theorem o_gs_fn_st (σ : oS) (x : Int32) : o_fn (o_s_st σ x) = o_fn σ := rfl
theorem o_gs_nc_st (σ : oS) (x : Int32) : o_nc (o_s_st σ x) = o_nc σ := rfl
theorem o_gs_fp_st (σ : oS) (x : Int32) : o_fp (o_s_st σ x) = o_fp σ := rfl
theorem o_gs_wt_st (σ : oS) (x : Int32) : o_wt (o_s_st σ x) = o_wt σ := rfl
theorem o_gs_st_st (σ : oS) (x : Int32) : o_st (o_s_st σ x) = x := rfl
theorem o_gs_md_st (σ : oS) (x : Int32) : o_md (o_s_st σ x) = o_md σ := rfl
theorem o_gs_lim_md (σ : oS) (x : Int32) : o_lim (o_s_md σ x) = o_lim σ := rfl
theorem o_gs_lw_md (σ : oS) (x : Int32) : o_lw (o_s_md σ x) = o_lw σ := rfl
theorem o_gs_fw_md (σ : oS) (x : Int32) : o_fw (o_s_md σ x) = o_fw σ := rfl
theorem o_gs_us_md (σ : oS) (x : Int32) : o_us (o_s_md σ x) = o_us σ := rfl
theorem o_gs_fr_md (σ : oS) (x : Int32) : o_fr (o_s_md σ x) = o_fr σ := rfl
theorem o_gs_ln_md (σ : oS) (x : Int32) : o_ln (o_s_md σ x) = o_ln σ := rfl
theorem o_gs_fn_md (σ : oS) (x : Int32) : o_fn (o_s_md σ x) = o_fn σ := rfl
theorem o_gs_nc_md (σ : oS) (x : Int32) : o_nc (o_s_md σ x) = o_nc σ := rfl
theorem o_gs_fp_md (σ : oS) (x : Int32) : o_fp (o_s_md σ x) = o_fp σ := rfl
theorem o_gs_wt_md (σ : oS) (x : Int32) : o_wt (o_s_md σ x) = o_wt σ := rfl
theorem o_gs_st_md (σ : oS) (x : Int32) : o_st (o_s_md σ x) = o_st σ := rfl
theorem o_gs_md_md (σ : oS) (x : Int32) : o_md (o_s_md σ x) = x := rfl
abbrev oH : Type := Nat × Nat × Nat × Nat
def ow (G : gT) (h0 : Nat) (h : oH) (σ : oS) : va_W := [(h0, .inr (2, [.int (o_lim σ), .ref h.1, .int (o_us σ), .ref h.2.1, .ref h.2.2.1, .int (o_nc σ), .ref h.2.2.2, .int (o_wt σ), .int (o_st σ), .int (o_md σ)])), (h.1, .inl (G.2.1, o_lw σ, .inl (o_fw σ))), (h.2.1, .inl (G.2.1, 24, .inl (o_fr σ))), (h.2.2.1, .inl (G.2.1, o_ln σ, .inl (o_fn σ))), (h.2.2.2, .inl (G.2.1, 4000, .inl (o_fp σ)))]
/-- the world at a heap, where it lies, what was changed since the method began -/
def oI (s : State) (A : Nat → Prop) (G : gT) (h0 : Nat) (h : oH) (σ : oS) (H : Heap) (locs : List Loc) : Prop := va_P G.1 vwCl (ow G h0 h σ) H ∧ va_D A (ow G h0 h σ) ∧ va_S A s.heap H locs
def oAt (G : gT) (A : Nat → Prop) (h0 : Nat) (h : oH) (σ : oS) (t : State) : Prop := va_P G.1 vwCl (ow G h0 h σ) t.heap ∧ gK G t ∧ va_D A (ow G h0 h σ)
def oPre (G : gT) (h0 : Nat) (h : oH) (σ : oS) (sz : Nat) (av : List Value) : Array Value → State → Prop := va_Pc (.ref h0 :: av) (fun U => U.heap.size = sz ∧ va_P G.1 vwCl (ow G h0 h σ) U.heap ∧ gK G U ∧ va_D (fun _ => True) (ow G h0 h σ))
def oA (G : gT) (h0 : Nat) (h : oH) (σ : oS) (sz : Nat) : Nat → Prop := va_A (ow G h0 h σ) sz
section OW
variable {p : Program} {l : Launch} {e : Env} {R : Room} {s : State} {m : MethodId} {args : Array Value} {below : List Frame} {meth : Method} {c : Code} {H : Heap} {locs : List Loc} {cells slots : Nat} {Q : State → Prop}
variable {cc : ByteArray} {pc : Nat} {ls : Array Slot} {rest : List Value} {A : Nat → Prop} {G : gT} {h0 : Nat} {nL : Nat} {Ts : List Cond}
variable {h : oH} {σ : oS}
theorem og_limit (S : CallFix p m c cc nL s args Ts RX0) (hin : ∀ w ∈ wsX00, w ∈ Ts) (hK : gK G s) (hI : oI s A G h0 h σ H locs) {ix : Nat} (hm : Cond.fieldLink RX0 ix "OwnMemory" "limit" "I" ∈ Ts) (hdg : decode cc pc = .ok (.getfield ix, 3)) (kk : W p l e R s m args below meth c H locs cells slots Q (F0 m (pc + 3) ls (.int (o_lim σ) :: rest))) : W p l e R s m args below meth c H locs cells slots Q (F0 m pc ls (.ref h0 :: rest)) :=
  va_get (D := G.1) (ci := 2) (v := .int (o_lim σ)) (C := RX0) (T := TX0) (N := 10) S.1 S.2.1 S.2.2.2.2 hin S.2.2.2.1 hK hI.1 0 rfl rfl 0 (by decide) (S.2.2.2.2 _ hm) (fun _ h9 => h9) rfl hdg kk
theorem og_words (S : CallFix p m c cc nL s args Ts RX0) (hin : ∀ w ∈ wsX00, w ∈ Ts) (hK : gK G s) (hI : oI s A G h0 h σ H locs) {ix : Nat} (hm : Cond.fieldLink RX0 ix "OwnMemory" "words" "[I" ∈ Ts) (hdg : decode cc pc = .ok (.getfield ix, 3)) (kk : W p l e R s m args below meth c H locs cells slots Q (F0 m (pc + 3) ls (.ref h.1 :: rest))) : W p l e R s m args below meth c H locs cells slots Q (F0 m pc ls (.ref h0 :: rest)) :=
  va_get (D := G.1) (ci := 2) (v := .ref h.1) (C := RX0) (T := TX0) (N := 10) S.1 S.2.1 S.2.2.2.2 hin S.2.2.2.1 hK hI.1 0 rfl rfl 1 (by decide) (S.2.2.2.2 _ hm) (fun _ h9 => h9) rfl hdg kk
theorem og_used (S : CallFix p m c cc nL s args Ts RX0) (hin : ∀ w ∈ wsX00, w ∈ Ts) (hK : gK G s) (hI : oI s A G h0 h σ H locs) {ix : Nat} (hm : Cond.fieldLink RX0 ix "OwnMemory" "used" "I" ∈ Ts) (hdg : decode cc pc = .ok (.getfield ix, 3)) (kk : W p l e R s m args below meth c H locs cells slots Q (F0 m (pc + 3) ls (.int (o_us σ) :: rest))) : W p l e R s m args below meth c H locs cells slots Q (F0 m pc ls (.ref h0 :: rest)) :=
  va_get (D := G.1) (ci := 2) (v := .int (o_us σ)) (C := RX0) (T := TX0) (N := 10) S.1 S.2.1 S.2.2.2.2 hin S.2.2.2.1 hK hI.1 0 rfl rfl 2 (by decide) (S.2.2.2.2 _ hm) (fun _ h9 => h9) rfl hdg kk
theorem op_used (S : CallFix p m c cc nL s args Ts RX0) (hin : ∀ w ∈ wsX00, w ∈ Ts) (hK : gK G s) (hI : oI s A G h0 h σ H locs) {ix : Nat} {x : Int32} {σ1 : oS} (hm : Cond.fieldLink RX0 ix "OwnMemory" "used" "I" ∈ Ts) (h1 : σ1 = o_s_us σ x) (hdg : decode cc pc = .ok (.putfield ix, 3)) (kk : ∀ (H1 : Heap) (locs1 : List Loc), oI s A G h0 h σ1 H1 locs1 → W p l e R s m args below meth c H1 locs1 cells slots Q (F0 m (pc + 3) ls rest)) : W p l e R s m args below meth c H locs cells slots Q (F0 m pc ls (.int x :: .ref h0 :: rest)) := by
  subst h1
  exact va_put (D := G.1) (ci := 2) (v := .int x) (ty := .int) (C := RX0) (T := TX0) (N := 10) S.1 S.2.1 S.2.2.2.2 hin tyX0 tyX0_ok nmX0 S.2.2.2.1 hK hI.1 hI.2.1 hI.2.2 0 rfl rfl 2 (by decide) (S.2.2.2.2 _ hm) (fun _ h9 => h9) rfl (by decide +kernel) rfl rfl (Nat.le_of_ble_eq_true rfl) hdg (fun H locs hP hD hS => kk H locs ⟨hP, hD, hS⟩)
theorem og_roots (S : CallFix p m c cc nL s args Ts RX0) (hin : ∀ w ∈ wsX00, w ∈ Ts) (hK : gK G s) (hI : oI s A G h0 h σ H locs) {ix : Nat} (hm : Cond.fieldLink RX0 ix "OwnMemory" "roots" "[I" ∈ Ts) (hdg : decode cc pc = .ok (.getfield ix, 3)) (kk : W p l e R s m args below meth c H locs cells slots Q (F0 m (pc + 3) ls (.ref h.2.1 :: rest))) : W p l e R s m args below meth c H locs cells slots Q (F0 m pc ls (.ref h0 :: rest)) :=
  va_get (D := G.1) (ci := 2) (v := .ref h.2.1) (C := RX0) (T := TX0) (N := 10) S.1 S.2.1 S.2.2.2.2 hin S.2.2.2.1 hK hI.1 0 rfl rfl 3 (by decide) (S.2.2.2.2 _ hm) (fun _ h9 => h9) rfl hdg kk
theorem og_names (S : CallFix p m c cc nL s args Ts RX0) (hin : ∀ w ∈ wsX00, w ∈ Ts) (hK : gK G s) (hI : oI s A G h0 h σ H locs) {ix : Nat} (hm : Cond.fieldLink RX0 ix "OwnMemory" "names" "[I" ∈ Ts) (hdg : decode cc pc = .ok (.getfield ix, 3)) (kk : W p l e R s m args below meth c H locs cells slots Q (F0 m (pc + 3) ls (.ref h.2.2.1 :: rest))) : W p l e R s m args below meth c H locs cells slots Q (F0 m pc ls (.ref h0 :: rest)) :=
  va_get (D := G.1) (ci := 2) (v := .ref h.2.2.1) (C := RX0) (T := TX0) (N := 10) S.1 S.2.1 S.2.2.2.2 hin S.2.2.2.1 hK hI.1 0 rfl rfl 4 (by decide) (S.2.2.2.2 _ hm) (fun _ h9 => h9) rfl hdg kk
theorem og_nameCount (S : CallFix p m c cc nL s args Ts RX0) (hin : ∀ w ∈ wsX00, w ∈ Ts) (hK : gK G s) (hI : oI s A G h0 h σ H locs) {ix : Nat} (hm : Cond.fieldLink RX0 ix "OwnMemory" "nameCount" "I" ∈ Ts) (hdg : decode cc pc = .ok (.getfield ix, 3)) (kk : W p l e R s m args below meth c H locs cells slots Q (F0 m (pc + 3) ls (.int (o_nc σ) :: rest))) : W p l e R s m args below meth c H locs cells slots Q (F0 m pc ls (.ref h0 :: rest)) :=
  va_get (D := G.1) (ci := 2) (v := .int (o_nc σ)) (C := RX0) (T := TX0) (N := 10) S.1 S.2.1 S.2.2.2.2 hin S.2.2.2.1 hK hI.1 0 rfl rfl 5 (by decide) (S.2.2.2.2 _ hm) (fun _ h9 => h9) rfl hdg kk
theorem op_nameCount (S : CallFix p m c cc nL s args Ts RX0) (hin : ∀ w ∈ wsX00, w ∈ Ts) (hK : gK G s) (hI : oI s A G h0 h σ H locs) {ix : Nat} {x : Int32} {σ1 : oS} (hm : Cond.fieldLink RX0 ix "OwnMemory" "nameCount" "I" ∈ Ts) (h1 : σ1 = o_s_nc σ x) (hdg : decode cc pc = .ok (.putfield ix, 3)) (kk : ∀ (H1 : Heap) (locs1 : List Loc), oI s A G h0 h σ1 H1 locs1 → W p l e R s m args below meth c H1 locs1 cells slots Q (F0 m (pc + 3) ls rest)) : W p l e R s m args below meth c H locs cells slots Q (F0 m pc ls (.int x :: .ref h0 :: rest)) := by
  subst h1
  exact va_put (D := G.1) (ci := 2) (v := .int x) (ty := .int) (C := RX0) (T := TX0) (N := 10) S.1 S.2.1 S.2.2.2.2 hin tyX0 tyX0_ok nmX0 S.2.2.2.1 hK hI.1 hI.2.1 hI.2.2 0 rfl rfl 5 (by decide) (S.2.2.2.2 _ hm) (fun _ h9 => h9) rfl (by decide +kernel) rfl rfl (Nat.le_of_ble_eq_true rfl) hdg (fun H locs hP hD hS => kk H locs ⟨hP, hD, hS⟩)
theorem og_pending (S : CallFix p m c cc nL s args Ts RX0) (hin : ∀ w ∈ wsX00, w ∈ Ts) (hK : gK G s) (hI : oI s A G h0 h σ H locs) {ix : Nat} (hm : Cond.fieldLink RX0 ix "OwnMemory" "pending" "[I" ∈ Ts) (hdg : decode cc pc = .ok (.getfield ix, 3)) (kk : W p l e R s m args below meth c H locs cells slots Q (F0 m (pc + 3) ls (.ref h.2.2.2 :: rest))) : W p l e R s m args below meth c H locs cells slots Q (F0 m pc ls (.ref h0 :: rest)) :=
  va_get (D := G.1) (ci := 2) (v := .ref h.2.2.2) (C := RX0) (T := TX0) (N := 10) S.1 S.2.1 S.2.2.2.2 hin S.2.2.2.1 hK hI.1 0 rfl rfl 6 (by decide) (S.2.2.2.2 _ hm) (fun _ h9 => h9) rfl hdg kk
theorem og_waiting (S : CallFix p m c cc nL s args Ts RX0) (hin : ∀ w ∈ wsX00, w ∈ Ts) (hK : gK G s) (hI : oI s A G h0 h σ H locs) {ix : Nat} (hm : Cond.fieldLink RX0 ix "OwnMemory" "waiting" "I" ∈ Ts) (hdg : decode cc pc = .ok (.getfield ix, 3)) (kk : W p l e R s m args below meth c H locs cells slots Q (F0 m (pc + 3) ls (.int (o_wt σ) :: rest))) : W p l e R s m args below meth c H locs cells slots Q (F0 m pc ls (.ref h0 :: rest)) :=
  va_get (D := G.1) (ci := 2) (v := .int (o_wt σ)) (C := RX0) (T := TX0) (N := 10) S.1 S.2.1 S.2.2.2.2 hin S.2.2.2.1 hK hI.1 0 rfl rfl 7 (by decide) (S.2.2.2.2 _ hm) (fun _ h9 => h9) rfl hdg kk
theorem op_waiting (S : CallFix p m c cc nL s args Ts RX0) (hin : ∀ w ∈ wsX00, w ∈ Ts) (hK : gK G s) (hI : oI s A G h0 h σ H locs) {ix : Nat} {x : Int32} {σ1 : oS} (hm : Cond.fieldLink RX0 ix "OwnMemory" "waiting" "I" ∈ Ts) (h1 : σ1 = o_s_wt σ x) (hdg : decode cc pc = .ok (.putfield ix, 3)) (kk : ∀ (H1 : Heap) (locs1 : List Loc), oI s A G h0 h σ1 H1 locs1 → W p l e R s m args below meth c H1 locs1 cells slots Q (F0 m (pc + 3) ls rest)) : W p l e R s m args below meth c H locs cells slots Q (F0 m pc ls (.int x :: .ref h0 :: rest)) := by
  subst h1
  exact va_put (D := G.1) (ci := 2) (v := .int x) (ty := .int) (C := RX0) (T := TX0) (N := 10) S.1 S.2.1 S.2.2.2.2 hin tyX0 tyX0_ok nmX0 S.2.2.2.1 hK hI.1 hI.2.1 hI.2.2 0 rfl rfl 7 (by decide) (S.2.2.2.2 _ hm) (fun _ h9 => h9) rfl (by decide +kernel) rfl rfl (Nat.le_of_ble_eq_true rfl) hdg (fun H locs hP hD hS => kk H locs ⟨hP, hD, hS⟩)
theorem og_stressEvery (S : CallFix p m c cc nL s args Ts RX0) (hin : ∀ w ∈ wsX00, w ∈ Ts) (hK : gK G s) (hI : oI s A G h0 h σ H locs) {ix : Nat} (hm : Cond.fieldLink RX0 ix "OwnMemory" "stressEvery" "I" ∈ Ts) (hdg : decode cc pc = .ok (.getfield ix, 3)) (kk : W p l e R s m args below meth c H locs cells slots Q (F0 m (pc + 3) ls (.int (o_st σ) :: rest))) : W p l e R s m args below meth c H locs cells slots Q (F0 m pc ls (.ref h0 :: rest)) :=
  va_get (D := G.1) (ci := 2) (v := .int (o_st σ)) (C := RX0) (T := TX0) (N := 10) S.1 S.2.1 S.2.2.2.2 hin S.2.2.2.1 hK hI.1 0 rfl rfl 8 (by decide) (S.2.2.2.2 _ hm) (fun _ h9 => h9) rfl hdg kk
theorem op_stressEvery (S : CallFix p m c cc nL s args Ts RX0) (hin : ∀ w ∈ wsX00, w ∈ Ts) (hK : gK G s) (hI : oI s A G h0 h σ H locs) {ix : Nat} {x : Int32} {σ1 : oS} (hm : Cond.fieldLink RX0 ix "OwnMemory" "stressEvery" "I" ∈ Ts) (h1 : σ1 = o_s_st σ x) (hdg : decode cc pc = .ok (.putfield ix, 3)) (kk : ∀ (H1 : Heap) (locs1 : List Loc), oI s A G h0 h σ1 H1 locs1 → W p l e R s m args below meth c H1 locs1 cells slots Q (F0 m (pc + 3) ls rest)) : W p l e R s m args below meth c H locs cells slots Q (F0 m pc ls (.int x :: .ref h0 :: rest)) := by
  subst h1
  exact va_put (D := G.1) (ci := 2) (v := .int x) (ty := .int) (C := RX0) (T := TX0) (N := 10) S.1 S.2.1 S.2.2.2.2 hin tyX0 tyX0_ok nmX0 S.2.2.2.1 hK hI.1 hI.2.1 hI.2.2 0 rfl rfl 8 (by decide) (S.2.2.2.2 _ hm) (fun _ h9 => h9) rfl (by decide +kernel) rfl rfl (Nat.le_of_ble_eq_true rfl) hdg (fun H locs hP hD hS => kk H locs ⟨hP, hD, hS⟩)
theorem og_made (S : CallFix p m c cc nL s args Ts RX0) (hin : ∀ w ∈ wsX00, w ∈ Ts) (hK : gK G s) (hI : oI s A G h0 h σ H locs) {ix : Nat} (hm : Cond.fieldLink RX0 ix "OwnMemory" "made" "I" ∈ Ts) (hdg : decode cc pc = .ok (.getfield ix, 3)) (kk : W p l e R s m args below meth c H locs cells slots Q (F0 m (pc + 3) ls (.int (o_md σ) :: rest))) : W p l e R s m args below meth c H locs cells slots Q (F0 m pc ls (.ref h0 :: rest)) :=
  va_get (D := G.1) (ci := 2) (v := .int (o_md σ)) (C := RX0) (T := TX0) (N := 10) S.1 S.2.1 S.2.2.2.2 hin S.2.2.2.1 hK hI.1 0 rfl rfl 9 (by decide) (S.2.2.2.2 _ hm) (fun _ h9 => h9) rfl hdg kk
theorem op_made (S : CallFix p m c cc nL s args Ts RX0) (hin : ∀ w ∈ wsX00, w ∈ Ts) (hK : gK G s) (hI : oI s A G h0 h σ H locs) {ix : Nat} {x : Int32} {σ1 : oS} (hm : Cond.fieldLink RX0 ix "OwnMemory" "made" "I" ∈ Ts) (h1 : σ1 = o_s_md σ x) (hdg : decode cc pc = .ok (.putfield ix, 3)) (kk : ∀ (H1 : Heap) (locs1 : List Loc), oI s A G h0 h σ1 H1 locs1 → W p l e R s m args below meth c H1 locs1 cells slots Q (F0 m (pc + 3) ls rest)) : W p l e R s m args below meth c H locs cells slots Q (F0 m pc ls (.int x :: .ref h0 :: rest)) := by
  subst h1
  exact va_put (D := G.1) (ci := 2) (v := .int x) (ty := .int) (C := RX0) (T := TX0) (N := 10) S.1 S.2.1 S.2.2.2.2 hin tyX0 tyX0_ok nmX0 S.2.2.2.1 hK hI.1 hI.2.1 hI.2.2 0 rfl rfl 9 (by decide) (S.2.2.2.2 _ hm) (fun _ h9 => h9) rfl (by decide +kernel) rfl rfl (Nat.le_of_ble_eq_true rfl) hdg (fun H locs hP hD hS => kk H locs ⟨hP, hD, hS⟩)
theorem or_words (S : CallFix p m c cc nL s args Ts RX0) (hK : gK G s) (hI : oI s A G h0 h σ H locs) {i x : Int32} (hi : vp_in i (o_lw σ)) (h1 : x = o_fw σ i.toNatClampNeg) (hdg : decode cc pc = .ok (.iaload, 1)) (kk : W p l e R s m args below meth c H locs cells slots Q (F0 m (pc + 1) ls (.int x :: rest))) : W p l e R s m args below meth c H locs cells slots Q (F0 m pc ls (.int i :: .ref h.1 :: rest)) := by
  subst h1
  exact va_iald (f := o_fw σ) S.1 S.2.1 hK hI.1 1 0 rfl rfl hi hdg kk
theorem ou_words (S : CallFix p m c cc nL s args Ts RX0) (hK : gK G s) (hI : oI s A G h0 h σ H locs) {i x : Int32} {σ1 : oS} (hi : vp_in i (o_lw σ)) (h1 : σ1 = o_s_fw σ (upd (o_fw σ) i.toNatClampNeg x)) (hdg : decode cc pc = .ok (.iastore, 1)) (kk : ∀ (H1 : Heap) (locs1 : List Loc), oI s A G h0 h σ1 H1 locs1 → W p l e R s m args below meth c H1 locs1 cells slots Q (F0 m (pc + 1) ls rest)) : W p l e R s m args below meth c H locs cells slots Q (F0 m pc ls (.int x :: .int i :: .ref h.1 :: rest)) := by
  subst h1
  exact va_iast (f := o_fw σ) S.1 S.2.1 hK hI.1 hI.2.1 hI.2.2 1 0 rfl rfl hi hdg (fun H locs hP hD hS => kk H locs ⟨hP, hD, hS⟩)
theorem ol_words (S : CallFix p m c cc nL s args Ts RX0) (hK : gK G s) (hI : oI s A G h0 h σ H locs) (hdg : decode cc pc = .ok (.arraylength, 1)) (kk : W p l e R s m args below meth c H locs cells slots Q (F0 m (pc + 1) ls (.int (nI (o_lw σ)) :: rest))) : W p l e R s m args below meth c H locs cells slots Q (F0 m pc ls (.ref h.1 :: rest)) :=
  va_alen S.1 S.2.1 hK hI.1 1 0 rfl rfl rfl hdg kk
theorem or_roots (S : CallFix p m c cc nL s args Ts RX0) (hK : gK G s) (hI : oI s A G h0 h σ H locs) {i x : Int32} (hi : vp_in i (24)) (h1 : x = o_fr σ i.toNatClampNeg) (hdg : decode cc pc = .ok (.iaload, 1)) (kk : W p l e R s m args below meth c H locs cells slots Q (F0 m (pc + 1) ls (.int x :: rest))) : W p l e R s m args below meth c H locs cells slots Q (F0 m pc ls (.int i :: .ref h.2.1 :: rest)) := by
  subst h1
  exact va_iald (f := o_fr σ) S.1 S.2.1 hK hI.1 2 0 rfl rfl hi hdg kk
theorem ou_roots (S : CallFix p m c cc nL s args Ts RX0) (hK : gK G s) (hI : oI s A G h0 h σ H locs) {i x : Int32} {σ1 : oS} (hi : vp_in i (24)) (h1 : σ1 = o_s_fr σ (upd (o_fr σ) i.toNatClampNeg x)) (hdg : decode cc pc = .ok (.iastore, 1)) (kk : ∀ (H1 : Heap) (locs1 : List Loc), oI s A G h0 h σ1 H1 locs1 → W p l e R s m args below meth c H1 locs1 cells slots Q (F0 m (pc + 1) ls rest)) : W p l e R s m args below meth c H locs cells slots Q (F0 m pc ls (.int x :: .int i :: .ref h.2.1 :: rest)) := by
  subst h1
  exact va_iast (f := o_fr σ) S.1 S.2.1 hK hI.1 hI.2.1 hI.2.2 2 0 rfl rfl hi hdg (fun H locs hP hD hS => kk H locs ⟨hP, hD, hS⟩)
theorem ol_roots (S : CallFix p m c cc nL s args Ts RX0) (hK : gK G s) (hI : oI s A G h0 h σ H locs) (hdg : decode cc pc = .ok (.arraylength, 1)) (kk : W p l e R s m args below meth c H locs cells slots Q (F0 m (pc + 1) ls (.int (nI (24)) :: rest))) : W p l e R s m args below meth c H locs cells slots Q (F0 m pc ls (.ref h.2.1 :: rest)) :=
  va_alen S.1 S.2.1 hK hI.1 2 0 rfl rfl rfl hdg kk
theorem or_names (S : CallFix p m c cc nL s args Ts RX0) (hK : gK G s) (hI : oI s A G h0 h σ H locs) {i x : Int32} (hi : vp_in i (o_ln σ)) (h1 : x = o_fn σ i.toNatClampNeg) (hdg : decode cc pc = .ok (.iaload, 1)) (kk : W p l e R s m args below meth c H locs cells slots Q (F0 m (pc + 1) ls (.int x :: rest))) : W p l e R s m args below meth c H locs cells slots Q (F0 m pc ls (.int i :: .ref h.2.2.1 :: rest)) := by
  subst h1
  exact va_iald (f := o_fn σ) S.1 S.2.1 hK hI.1 3 0 rfl rfl hi hdg kk
theorem ou_names (S : CallFix p m c cc nL s args Ts RX0) (hK : gK G s) (hI : oI s A G h0 h σ H locs) {i x : Int32} {σ1 : oS} (hi : vp_in i (o_ln σ)) (h1 : σ1 = o_s_fn σ (upd (o_fn σ) i.toNatClampNeg x)) (hdg : decode cc pc = .ok (.iastore, 1)) (kk : ∀ (H1 : Heap) (locs1 : List Loc), oI s A G h0 h σ1 H1 locs1 → W p l e R s m args below meth c H1 locs1 cells slots Q (F0 m (pc + 1) ls rest)) : W p l e R s m args below meth c H locs cells slots Q (F0 m pc ls (.int x :: .int i :: .ref h.2.2.1 :: rest)) := by
  subst h1
  exact va_iast (f := o_fn σ) S.1 S.2.1 hK hI.1 hI.2.1 hI.2.2 3 0 rfl rfl hi hdg (fun H locs hP hD hS => kk H locs ⟨hP, hD, hS⟩)
theorem ol_names (S : CallFix p m c cc nL s args Ts RX0) (hK : gK G s) (hI : oI s A G h0 h σ H locs) (hdg : decode cc pc = .ok (.arraylength, 1)) (kk : W p l e R s m args below meth c H locs cells slots Q (F0 m (pc + 1) ls (.int (nI (o_ln σ)) :: rest))) : W p l e R s m args below meth c H locs cells slots Q (F0 m pc ls (.ref h.2.2.1 :: rest)) :=
  va_alen S.1 S.2.1 hK hI.1 3 0 rfl rfl rfl hdg kk
theorem or_pending (S : CallFix p m c cc nL s args Ts RX0) (hK : gK G s) (hI : oI s A G h0 h σ H locs) {i x : Int32} (hi : vp_in i (4000)) (h1 : x = o_fp σ i.toNatClampNeg) (hdg : decode cc pc = .ok (.iaload, 1)) (kk : W p l e R s m args below meth c H locs cells slots Q (F0 m (pc + 1) ls (.int x :: rest))) : W p l e R s m args below meth c H locs cells slots Q (F0 m pc ls (.int i :: .ref h.2.2.2 :: rest)) := by
  subst h1
  exact va_iald (f := o_fp σ) S.1 S.2.1 hK hI.1 4 0 rfl rfl hi hdg kk
theorem ou_pending (S : CallFix p m c cc nL s args Ts RX0) (hK : gK G s) (hI : oI s A G h0 h σ H locs) {i x : Int32} {σ1 : oS} (hi : vp_in i (4000)) (h1 : σ1 = o_s_fp σ (upd (o_fp σ) i.toNatClampNeg x)) (hdg : decode cc pc = .ok (.iastore, 1)) (kk : ∀ (H1 : Heap) (locs1 : List Loc), oI s A G h0 h σ1 H1 locs1 → W p l e R s m args below meth c H1 locs1 cells slots Q (F0 m (pc + 1) ls rest)) : W p l e R s m args below meth c H locs cells slots Q (F0 m pc ls (.int x :: .int i :: .ref h.2.2.2 :: rest)) := by
  subst h1
  exact va_iast (f := o_fp σ) S.1 S.2.1 hK hI.1 hI.2.1 hI.2.2 4 0 rfl rfl hi hdg (fun H locs hP hD hS => kk H locs ⟨hP, hD, hS⟩)
theorem ol_pending (S : CallFix p m c cc nL s args Ts RX0) (hK : gK G s) (hI : oI s A G h0 h σ H locs) (hdg : decode cc pc = .ok (.arraylength, 1)) (kk : W p l e R s m args below meth c H locs cells slots Q (F0 m (pc + 1) ls (.int (nI (4000)) :: rest))) : W p l e R s m args below meth c H locs cells slots Q (F0 m pc ls (.ref h.2.2.2 :: rest)) :=
  va_alen S.1 S.2.1 hK hI.1 4 0 rfl rfl rfl hdg kk
theorem ox_copy (S : CallFix p m c cc nL s args Ts RX0) (hK : gK G s) (hI : oI s A G h0 h σ H locs) {ix : Nat} {sp dp n : Int32} {σ1 : oS} (hw : ∀ w ∈ [Cond.methodLink RX0 ix arraycopyName, .native arraycopyName, .static arraycopyName, .initialized "java/lang/System"], w ∈ Ts) (hs : ls.size = nL) (hc : ¬ sp < 0 ∧ ¬ dp < 0 ∧ ¬ n < 0 ∧ sp.toNatClampNeg + n.toNatClampNeg ≤ o_lw σ ∧ dp.toNatClampNeg + n.toNatClampNeg ≤ o_lw σ) (h1 : σ1 = o_s_fw σ (va_cpy (o_fw σ) (o_fw σ) sp.toNatClampNeg dp.toNatClampNeg n.toNatClampNeg)) (hf : 1 ≤ R.frames) (hl : (rest.map fun v => v.category).sum + (nativeFrameWords "java/lang/System" "arraycopy" 5 + 11) ≤ R.locals) (hdg : decode cc pc = .ok (.invokestatic ix, 3)) (kk : ∀ (H1 : Heap) (locs1 : List Loc), oI s A G h0 h σ1 H1 locs1 → W p l e R s m args below meth c H1 locs1 cells slots Q (F0 m (pc + 3) ls rest)) : W p l e R s m args below meth c H locs cells slots Q (F0 m pc ls (.int n :: .int dp :: .ref h.1 :: .int sp :: .ref h.1 :: rest)) := by
  subst h1
  have q1 := fun w h => S.2.2.2.2 w (hw w h)
  exact va_copyi (ty := .int) (f := o_fw σ) (g := o_fw σ) S.1 S.2.1 (S.2.2.1.trans hs.symm) S.2.2.2.1 (q1 _ (by simp)) (q1 _ (by simp)) (q1 _ (by simp)) (q1 _ (by simp)) hK hI.1 hI.2.1 hI.2.2 1 1 0 0 rfl rfl rfl rfl rfl hc.1 hc.2.1 hc.2.2.1 hc.2.2.2.1 hc.2.2.2.2 (fun _ _ => rfl) hf hl hdg (fun H locs hP hD hS => kk H locs ⟨hP, hD, hS⟩)
theorem ox_min (S : CallFix p m c cc nL s args Ts RX0) {ix : Nat} {x y v : Int32} (hw : ∀ w ∈ [Cond.methodLink RX0 ix Lib.Math.min.name, .static Lib.Math.min.name, .initialized "java/lang/Math", .code Lib.Math.min.name Lib.Math.min.code 2 (some .int)], w ∈ Ts) (hs : ls.size = nL) (h1 : v = cIf (y < x) y x) (hf : 1 ≤ R.frames) (hl : (rest.map fun v => v.category).sum + 13 ≤ R.locals) (hc : cells ≤ R.cells) (hsl : slots ≤ R.slots) (hdg : decode cc pc = .ok (.invokestatic ix, 3)) (kk : W p l e R s m args below meth c H locs cells slots Q (F0 m (pc + 3) ls (.int v :: rest))) : W p l e R s m args below meth c H locs cells slots Q (F0 m pc ls (.int y :: .int x :: rest)) := by
  have q1 := fun w h => S.2.2.2.2 w (hw w h)
  refine va_mmin S.1 S.2.1 (S.2.2.1.trans hs.symm) S.2.2.2.1 (q1 _ (by simp)) (q1 _ (by simp)) (q1 _ (by simp)) (q1 _ (by simp)) hf hl hc hsl hdg ?_
  by_cases hyx : y < x
  · rw [if_pos hyx]; rw [cIf_t hyx] at h1; rw [← h1]; exact kk
  · rw [if_neg hyx]; rw [cIf_f hyx] at h1; rw [← h1]; exact kk
theorem ox_max (S : CallFix p m c cc nL s args Ts RX0) {ix : Nat} {x y v : Int32} (hw : ∀ w ∈ [Cond.methodLink RX0 ix Lib.Math.max.name, .static Lib.Math.max.name, .initialized "java/lang/Math", .code Lib.Math.max.name Lib.Math.max.code 2 (some .int)], w ∈ Ts) (hs : ls.size = nL) (h1 : v = cIf (x < y) y x) (hf : 1 ≤ R.frames) (hl : (rest.map fun v => v.category).sum + 13 ≤ R.locals) (hc : cells ≤ R.cells) (hsl : slots ≤ R.slots) (hdg : decode cc pc = .ok (.invokestatic ix, 3)) (kk : W p l e R s m args below meth c H locs cells slots Q (F0 m (pc + 3) ls (.int v :: rest))) : W p l e R s m args below meth c H locs cells slots Q (F0 m pc ls (.int y :: .int x :: rest)) := by
  have q1 := fun w h => S.2.2.2.2 w (hw w h)
  refine va_mmax S.1 S.2.1 (S.2.2.1.trans hs.symm) S.2.2.2.1 (q1 _ (by simp)) (q1 _ (by simp)) (q1 _ (by simp)) (q1 _ (by simp)) hf hl hc hsl hdg ?_
  by_cases hyx : x < y
  · rw [if_pos hyx]; rw [cIf_t hyx] at h1; rw [← h1]; exact kk
  · rw [if_neg hyx]; rw [cIf_f hyx] at h1; rw [← h1]; exact kk
end OW
