/-! ===== what a state is: rows of bytes, the interval, a model, the predictor, the class; the reference ===== -/
abbrev Row : Type := Nat × (Nat → Int32)
def q_c (u : Row) : Nat := u.1
def qs_c (u : Row) (x : Nat) : Row := (x, u.2)
def q_f (u : Row) : Nat → Int32 := u.2
def qs_f (u : Row) (x : Nat → Int32) : Row := (u.1, x)
theorem q_c_c (u : Row) (x : Nat) : q_c (qs_c u x) = x := rfl
theorem q_c_f (u : Row) (x : Nat → Int32) : q_c (qs_f u x) = q_c u := rfl
theorem q_f_c (u : Row) (x : Nat) : q_f (qs_c u x) = q_f u := rfl
theorem q_f_f (u : Row) (x : Nat → Int32) : q_f (qs_f u x) = x := rfl
abbrev Iv : Type := Int64 × Int64 × Int64 × Int32
def v_lo (u : Iv) : Int64 := u.1
def vs_lo (u : Iv) (x : Int64) : Iv := (x, u.2.1, u.2.2.1, u.2.2.2)
def v_hi (u : Iv) : Int64 := u.2.1
def vs_hi (u : Iv) (x : Int64) : Iv := (u.1, x, u.2.2.1, u.2.2.2)
def v_x (u : Iv) : Int64 := u.2.2.1
def vs_x (u : Iv) (x : Int64) : Iv := (u.1, u.2.1, x, u.2.2.2)
def v_nx (u : Iv) : Int32 := u.2.2.2
def vs_nx (u : Iv) (x : Int32) : Iv := (u.1, u.2.1, u.2.2.1, x)
theorem v_lo_lo (u : Iv) (x : Int64) : v_lo (vs_lo u x) = x := rfl
theorem v_lo_hi (u : Iv) (x : Int64) : v_lo (vs_hi u x) = v_lo u := rfl
theorem v_lo_x (u : Iv) (x : Int64) : v_lo (vs_x u x) = v_lo u := rfl
theorem v_lo_nx (u : Iv) (x : Int32) : v_lo (vs_nx u x) = v_lo u := rfl
theorem v_hi_lo (u : Iv) (x : Int64) : v_hi (vs_lo u x) = v_hi u := rfl
theorem v_hi_hi (u : Iv) (x : Int64) : v_hi (vs_hi u x) = x := rfl
theorem v_hi_x (u : Iv) (x : Int64) : v_hi (vs_x u x) = v_hi u := rfl
theorem v_hi_nx (u : Iv) (x : Int32) : v_hi (vs_nx u x) = v_hi u := rfl
theorem v_x_lo (u : Iv) (x : Int64) : v_x (vs_lo u x) = v_x u := rfl
theorem v_x_hi (u : Iv) (x : Int64) : v_x (vs_hi u x) = v_x u := rfl
theorem v_x_x (u : Iv) (x : Int64) : v_x (vs_x u x) = x := rfl
theorem v_x_nx (u : Iv) (x : Int32) : v_x (vs_nx u x) = v_x u := rfl
theorem v_nx_lo (u : Iv) (x : Int64) : v_nx (vs_lo u x) = v_nx u := rfl
theorem v_nx_hi (u : Iv) (x : Int64) : v_nx (vs_hi u x) = v_nx u := rfl
theorem v_nx_x (u : Iv) (x : Int64) : v_nx (vs_x u x) = v_nx u := rfl
theorem v_nx_nx (u : Iv) (x : Int32) : v_nx (vs_nx u x) = x := rfl
abbrev Mo : Type := Int32 × Int32 × Int32 × (Nat → Int32) × (Nat → Int64) × (Nat → Int32) × Int32 × Int32 × Int64 × Int32
def o_od (u : Mo) : Int32 := u.1
def os_od (u : Mo) (x : Int32) : Mo := (x, u.2.1, u.2.2.1, u.2.2.2.1, u.2.2.2.2.1, u.2.2.2.2.2.1, u.2.2.2.2.2.2.1, u.2.2.2.2.2.2.2.1, u.2.2.2.2.2.2.2.2.1, u.2.2.2.2.2.2.2.2.2)
def o_rt (u : Mo) : Int32 := u.2.1
def os_rt (u : Mo) (x : Int32) : Mo := (u.1, x, u.2.2.1, u.2.2.2.1, u.2.2.2.2.1, u.2.2.2.2.2.1, u.2.2.2.2.2.2.1, u.2.2.2.2.2.2.2.1, u.2.2.2.2.2.2.2.2.1, u.2.2.2.2.2.2.2.2.2)
def o_t (u : Mo) : Int32 := u.2.2.1
def os_t (u : Mo) (x : Int32) : Mo := (u.1, u.2.1, x, u.2.2.2.1, u.2.2.2.2.1, u.2.2.2.2.2.1, u.2.2.2.2.2.2.1, u.2.2.2.2.2.2.2.1, u.2.2.2.2.2.2.2.2.1, u.2.2.2.2.2.2.2.2.2)
def o_co (u : Mo) : Nat → Int32 := u.2.2.2.1
def os_co (u : Mo) (x : Nat → Int32) : Mo := (u.1, u.2.1, u.2.2.1, x, u.2.2.2.2.1, u.2.2.2.2.2.1, u.2.2.2.2.2.2.1, u.2.2.2.2.2.2.2.1, u.2.2.2.2.2.2.2.2.1, u.2.2.2.2.2.2.2.2.2)
def o_se (u : Mo) : Nat → Int64 := u.2.2.2.2.1
def os_se (u : Mo) (x : Nat → Int64) : Mo := (u.1, u.2.1, u.2.2.1, u.2.2.2.1, x, u.2.2.2.2.2.1, u.2.2.2.2.2.2.1, u.2.2.2.2.2.2.2.1, u.2.2.2.2.2.2.2.2.1, u.2.2.2.2.2.2.2.2.2)
def o_we (u : Mo) : Nat → Int32 := u.2.2.2.2.2.1
def os_we (u : Mo) (x : Nat → Int32) : Mo := (u.1, u.2.1, u.2.2.1, u.2.2.2.1, u.2.2.2.2.1, x, u.2.2.2.2.2.2.1, u.2.2.2.2.2.2.2.1, u.2.2.2.2.2.2.2.2.1, u.2.2.2.2.2.2.2.2.2)
def o_cn (u : Mo) : Int32 := u.2.2.2.2.2.2.1
def os_cn (u : Mo) (x : Int32) : Mo := (u.1, u.2.1, u.2.2.1, u.2.2.2.1, u.2.2.2.2.1, u.2.2.2.2.2.1, x, u.2.2.2.2.2.2.2.1, u.2.2.2.2.2.2.2.2.1, u.2.2.2.2.2.2.2.2.2)
def o_cx (u : Mo) : Int32 := u.2.2.2.2.2.2.2.1
def os_cx (u : Mo) (x : Int32) : Mo := (u.1, u.2.1, u.2.2.1, u.2.2.2.1, u.2.2.2.2.1, u.2.2.2.2.2.1, u.2.2.2.2.2.2.1, x, u.2.2.2.2.2.2.2.2.1, u.2.2.2.2.2.2.2.2.2)
def o_si (u : Mo) : Int64 := u.2.2.2.2.2.2.2.2.1
def os_si (u : Mo) (x : Int64) : Mo := (u.1, u.2.1, u.2.2.1, u.2.2.2.1, u.2.2.2.2.1, u.2.2.2.2.2.1, u.2.2.2.2.2.2.1, u.2.2.2.2.2.2.2.1, x, u.2.2.2.2.2.2.2.2.2)
def o_pl (u : Mo) : Int32 := u.2.2.2.2.2.2.2.2.2
def os_pl (u : Mo) (x : Int32) : Mo := (u.1, u.2.1, u.2.2.1, u.2.2.2.1, u.2.2.2.2.1, u.2.2.2.2.2.1, u.2.2.2.2.2.2.1, u.2.2.2.2.2.2.2.1, u.2.2.2.2.2.2.2.2.1, x)
theorem o_od_od (u : Mo) (x : Int32) : o_od (os_od u x) = x := rfl
theorem o_od_rt (u : Mo) (x : Int32) : o_od (os_rt u x) = o_od u := rfl
theorem o_od_t (u : Mo) (x : Int32) : o_od (os_t u x) = o_od u := rfl
theorem o_od_co (u : Mo) (x : Nat → Int32) : o_od (os_co u x) = o_od u := rfl
theorem o_od_se (u : Mo) (x : Nat → Int64) : o_od (os_se u x) = o_od u := rfl
theorem o_od_we (u : Mo) (x : Nat → Int32) : o_od (os_we u x) = o_od u := rfl
theorem o_od_cn (u : Mo) (x : Int32) : o_od (os_cn u x) = o_od u := rfl
theorem o_od_cx (u : Mo) (x : Int32) : o_od (os_cx u x) = o_od u := rfl
theorem o_od_si (u : Mo) (x : Int64) : o_od (os_si u x) = o_od u := rfl
theorem o_od_pl (u : Mo) (x : Int32) : o_od (os_pl u x) = o_od u := rfl
theorem o_rt_od (u : Mo) (x : Int32) : o_rt (os_od u x) = o_rt u := rfl
theorem o_rt_rt (u : Mo) (x : Int32) : o_rt (os_rt u x) = x := rfl
theorem o_rt_t (u : Mo) (x : Int32) : o_rt (os_t u x) = o_rt u := rfl
theorem o_rt_co (u : Mo) (x : Nat → Int32) : o_rt (os_co u x) = o_rt u := rfl
theorem o_rt_se (u : Mo) (x : Nat → Int64) : o_rt (os_se u x) = o_rt u := rfl
theorem o_rt_we (u : Mo) (x : Nat → Int32) : o_rt (os_we u x) = o_rt u := rfl
theorem o_rt_cn (u : Mo) (x : Int32) : o_rt (os_cn u x) = o_rt u := rfl
theorem o_rt_cx (u : Mo) (x : Int32) : o_rt (os_cx u x) = o_rt u := rfl
theorem o_rt_si (u : Mo) (x : Int64) : o_rt (os_si u x) = o_rt u := rfl
theorem o_rt_pl (u : Mo) (x : Int32) : o_rt (os_pl u x) = o_rt u := rfl
theorem o_t_od (u : Mo) (x : Int32) : o_t (os_od u x) = o_t u := rfl
theorem o_t_rt (u : Mo) (x : Int32) : o_t (os_rt u x) = o_t u := rfl
theorem o_t_t (u : Mo) (x : Int32) : o_t (os_t u x) = x := rfl
theorem o_t_co (u : Mo) (x : Nat → Int32) : o_t (os_co u x) = o_t u := rfl
theorem o_t_se (u : Mo) (x : Nat → Int64) : o_t (os_se u x) = o_t u := rfl
theorem o_t_we (u : Mo) (x : Nat → Int32) : o_t (os_we u x) = o_t u := rfl
theorem o_t_cn (u : Mo) (x : Int32) : o_t (os_cn u x) = o_t u := rfl
theorem o_t_cx (u : Mo) (x : Int32) : o_t (os_cx u x) = o_t u := rfl
theorem o_t_si (u : Mo) (x : Int64) : o_t (os_si u x) = o_t u := rfl
theorem o_t_pl (u : Mo) (x : Int32) : o_t (os_pl u x) = o_t u := rfl
theorem o_co_od (u : Mo) (x : Int32) : o_co (os_od u x) = o_co u := rfl
theorem o_co_rt (u : Mo) (x : Int32) : o_co (os_rt u x) = o_co u := rfl
theorem o_co_t (u : Mo) (x : Int32) : o_co (os_t u x) = o_co u := rfl
theorem o_co_co (u : Mo) (x : Nat → Int32) : o_co (os_co u x) = x := rfl
theorem o_co_se (u : Mo) (x : Nat → Int64) : o_co (os_se u x) = o_co u := rfl
theorem o_co_we (u : Mo) (x : Nat → Int32) : o_co (os_we u x) = o_co u := rfl
theorem o_co_cn (u : Mo) (x : Int32) : o_co (os_cn u x) = o_co u := rfl
theorem o_co_cx (u : Mo) (x : Int32) : o_co (os_cx u x) = o_co u := rfl
theorem o_co_si (u : Mo) (x : Int64) : o_co (os_si u x) = o_co u := rfl
theorem o_co_pl (u : Mo) (x : Int32) : o_co (os_pl u x) = o_co u := rfl
theorem o_se_od (u : Mo) (x : Int32) : o_se (os_od u x) = o_se u := rfl
theorem o_se_rt (u : Mo) (x : Int32) : o_se (os_rt u x) = o_se u := rfl
theorem o_se_t (u : Mo) (x : Int32) : o_se (os_t u x) = o_se u := rfl
theorem o_se_co (u : Mo) (x : Nat → Int32) : o_se (os_co u x) = o_se u := rfl
theorem o_se_se (u : Mo) (x : Nat → Int64) : o_se (os_se u x) = x := rfl
theorem o_se_we (u : Mo) (x : Nat → Int32) : o_se (os_we u x) = o_se u := rfl
theorem o_se_cn (u : Mo) (x : Int32) : o_se (os_cn u x) = o_se u := rfl
theorem o_se_cx (u : Mo) (x : Int32) : o_se (os_cx u x) = o_se u := rfl
theorem o_se_si (u : Mo) (x : Int64) : o_se (os_si u x) = o_se u := rfl
theorem o_se_pl (u : Mo) (x : Int32) : o_se (os_pl u x) = o_se u := rfl
theorem o_we_od (u : Mo) (x : Int32) : o_we (os_od u x) = o_we u := rfl
theorem o_we_rt (u : Mo) (x : Int32) : o_we (os_rt u x) = o_we u := rfl
theorem o_we_t (u : Mo) (x : Int32) : o_we (os_t u x) = o_we u := rfl
theorem o_we_co (u : Mo) (x : Nat → Int32) : o_we (os_co u x) = o_we u := rfl
theorem o_we_se (u : Mo) (x : Nat → Int64) : o_we (os_se u x) = o_we u := rfl
theorem o_we_we (u : Mo) (x : Nat → Int32) : o_we (os_we u x) = x := rfl
theorem o_we_cn (u : Mo) (x : Int32) : o_we (os_cn u x) = o_we u := rfl
theorem o_we_cx (u : Mo) (x : Int32) : o_we (os_cx u x) = o_we u := rfl
theorem o_we_si (u : Mo) (x : Int64) : o_we (os_si u x) = o_we u := rfl
theorem o_we_pl (u : Mo) (x : Int32) : o_we (os_pl u x) = o_we u := rfl
theorem o_cn_od (u : Mo) (x : Int32) : o_cn (os_od u x) = o_cn u := rfl
theorem o_cn_rt (u : Mo) (x : Int32) : o_cn (os_rt u x) = o_cn u := rfl
theorem o_cn_t (u : Mo) (x : Int32) : o_cn (os_t u x) = o_cn u := rfl
theorem o_cn_co (u : Mo) (x : Nat → Int32) : o_cn (os_co u x) = o_cn u := rfl
theorem o_cn_se (u : Mo) (x : Nat → Int64) : o_cn (os_se u x) = o_cn u := rfl
theorem o_cn_we (u : Mo) (x : Nat → Int32) : o_cn (os_we u x) = o_cn u := rfl
theorem o_cn_cn (u : Mo) (x : Int32) : o_cn (os_cn u x) = x := rfl
theorem o_cn_cx (u : Mo) (x : Int32) : o_cn (os_cx u x) = o_cn u := rfl
theorem o_cn_si (u : Mo) (x : Int64) : o_cn (os_si u x) = o_cn u := rfl
theorem o_cn_pl (u : Mo) (x : Int32) : o_cn (os_pl u x) = o_cn u := rfl
theorem o_cx_od (u : Mo) (x : Int32) : o_cx (os_od u x) = o_cx u := rfl
theorem o_cx_rt (u : Mo) (x : Int32) : o_cx (os_rt u x) = o_cx u := rfl
theorem o_cx_t (u : Mo) (x : Int32) : o_cx (os_t u x) = o_cx u := rfl
theorem o_cx_co (u : Mo) (x : Nat → Int32) : o_cx (os_co u x) = o_cx u := rfl
theorem o_cx_se (u : Mo) (x : Nat → Int64) : o_cx (os_se u x) = o_cx u := rfl
theorem o_cx_we (u : Mo) (x : Nat → Int32) : o_cx (os_we u x) = o_cx u := rfl
theorem o_cx_cn (u : Mo) (x : Int32) : o_cx (os_cn u x) = o_cx u := rfl
theorem o_cx_cx (u : Mo) (x : Int32) : o_cx (os_cx u x) = x := rfl
theorem o_cx_si (u : Mo) (x : Int64) : o_cx (os_si u x) = o_cx u := rfl
theorem o_cx_pl (u : Mo) (x : Int32) : o_cx (os_pl u x) = o_cx u := rfl
theorem o_si_od (u : Mo) (x : Int32) : o_si (os_od u x) = o_si u := rfl
theorem o_si_rt (u : Mo) (x : Int32) : o_si (os_rt u x) = o_si u := rfl
theorem o_si_t (u : Mo) (x : Int32) : o_si (os_t u x) = o_si u := rfl
theorem o_si_co (u : Mo) (x : Nat → Int32) : o_si (os_co u x) = o_si u := rfl
theorem o_si_se (u : Mo) (x : Nat → Int64) : o_si (os_se u x) = o_si u := rfl
theorem o_si_we (u : Mo) (x : Nat → Int32) : o_si (os_we u x) = o_si u := rfl
theorem o_si_cn (u : Mo) (x : Int32) : o_si (os_cn u x) = o_si u := rfl
theorem o_si_cx (u : Mo) (x : Int32) : o_si (os_cx u x) = o_si u := rfl
theorem o_si_si (u : Mo) (x : Int64) : o_si (os_si u x) = x := rfl
theorem o_si_pl (u : Mo) (x : Int32) : o_si (os_pl u x) = o_si u := rfl
theorem o_pl_od (u : Mo) (x : Int32) : o_pl (os_od u x) = o_pl u := rfl
theorem o_pl_rt (u : Mo) (x : Int32) : o_pl (os_rt u x) = o_pl u := rfl
theorem o_pl_t (u : Mo) (x : Int32) : o_pl (os_t u x) = o_pl u := rfl
theorem o_pl_co (u : Mo) (x : Nat → Int32) : o_pl (os_co u x) = o_pl u := rfl
theorem o_pl_se (u : Mo) (x : Nat → Int64) : o_pl (os_se u x) = o_pl u := rfl
theorem o_pl_we (u : Mo) (x : Nat → Int32) : o_pl (os_we u x) = o_pl u := rfl
theorem o_pl_cn (u : Mo) (x : Int32) : o_pl (os_cn u x) = o_pl u := rfl
theorem o_pl_cx (u : Mo) (x : Int32) : o_pl (os_cx u x) = o_pl u := rfl
theorem o_pl_si (u : Mo) (x : Int64) : o_pl (os_si u x) = o_pl u := rfl
theorem o_pl_pl (u : Mo) (x : Int32) : o_pl (os_pl u x) = x := rfl
abbrev Pr : Type := (Nat → Mo) × Nat × (Nat → Int32) × Nat × Int32 × Int32 × Int64
def k_mo (u : Pr) : Nat → Mo := u.1
def ks_mo (u : Pr) (x : Nat → Mo) : Pr := (x, u.2.1, u.2.2.1, u.2.2.2.1, u.2.2.2.2.1, u.2.2.2.2.2.1, u.2.2.2.2.2.2)
def k_n (u : Pr) : Nat := u.2.1
def ks_n (u : Pr) (x : Nat) : Pr := (u.1, x, u.2.2.1, u.2.2.2.1, u.2.2.2.2.1, u.2.2.2.2.2.1, u.2.2.2.2.2.2)
def k_la (u : Pr) : Nat → Int32 := u.2.2.1
def ks_la (u : Pr) (x : Nat → Int32) : Pr := (u.1, u.2.1, x, u.2.2.2.1, u.2.2.2.2.1, u.2.2.2.2.2.1, u.2.2.2.2.2.2)
def k_nd (u : Pr) : Nat := u.2.2.2.1
def ks_nd (u : Pr) (x : Nat) : Pr := (u.1, u.2.1, u.2.2.1, x, u.2.2.2.2.1, u.2.2.2.2.2.1, u.2.2.2.2.2.2)
def k_ph (u : Pr) : Int32 := u.2.2.2.2.1
def ks_ph (u : Pr) (x : Int32) : Pr := (u.1, u.2.1, u.2.2.1, u.2.2.2.1, x, u.2.2.2.2.2.1, u.2.2.2.2.2.2)
def k_bt (u : Pr) : Int32 := u.2.2.2.2.2.1
def ks_bt (u : Pr) (x : Int32) : Pr := (u.1, u.2.1, u.2.2.1, u.2.2.2.1, u.2.2.2.2.1, x, u.2.2.2.2.2.2)
def k_er (u : Pr) : Int64 := u.2.2.2.2.2.2
def ks_er (u : Pr) (x : Int64) : Pr := (u.1, u.2.1, u.2.2.1, u.2.2.2.1, u.2.2.2.2.1, u.2.2.2.2.2.1, x)
theorem k_mo_mo (u : Pr) (x : Nat → Mo) : k_mo (ks_mo u x) = x := rfl
theorem k_mo_n (u : Pr) (x : Nat) : k_mo (ks_n u x) = k_mo u := rfl
theorem k_mo_la (u : Pr) (x : Nat → Int32) : k_mo (ks_la u x) = k_mo u := rfl
theorem k_mo_nd (u : Pr) (x : Nat) : k_mo (ks_nd u x) = k_mo u := rfl
theorem k_mo_ph (u : Pr) (x : Int32) : k_mo (ks_ph u x) = k_mo u := rfl
theorem k_mo_bt (u : Pr) (x : Int32) : k_mo (ks_bt u x) = k_mo u := rfl
theorem k_mo_er (u : Pr) (x : Int64) : k_mo (ks_er u x) = k_mo u := rfl
theorem k_n_mo (u : Pr) (x : Nat → Mo) : k_n (ks_mo u x) = k_n u := rfl
theorem k_n_n (u : Pr) (x : Nat) : k_n (ks_n u x) = x := rfl
theorem k_n_la (u : Pr) (x : Nat → Int32) : k_n (ks_la u x) = k_n u := rfl
theorem k_n_nd (u : Pr) (x : Nat) : k_n (ks_nd u x) = k_n u := rfl
theorem k_n_ph (u : Pr) (x : Int32) : k_n (ks_ph u x) = k_n u := rfl
theorem k_n_bt (u : Pr) (x : Int32) : k_n (ks_bt u x) = k_n u := rfl
theorem k_n_er (u : Pr) (x : Int64) : k_n (ks_er u x) = k_n u := rfl
theorem k_la_mo (u : Pr) (x : Nat → Mo) : k_la (ks_mo u x) = k_la u := rfl
theorem k_la_n (u : Pr) (x : Nat) : k_la (ks_n u x) = k_la u := rfl
theorem k_la_la (u : Pr) (x : Nat → Int32) : k_la (ks_la u x) = x := rfl
theorem k_la_nd (u : Pr) (x : Nat) : k_la (ks_nd u x) = k_la u := rfl
theorem k_la_ph (u : Pr) (x : Int32) : k_la (ks_ph u x) = k_la u := rfl
theorem k_la_bt (u : Pr) (x : Int32) : k_la (ks_bt u x) = k_la u := rfl
theorem k_la_er (u : Pr) (x : Int64) : k_la (ks_er u x) = k_la u := rfl
theorem k_nd_mo (u : Pr) (x : Nat → Mo) : k_nd (ks_mo u x) = k_nd u := rfl
theorem k_nd_n (u : Pr) (x : Nat) : k_nd (ks_n u x) = k_nd u := rfl
theorem k_nd_la (u : Pr) (x : Nat → Int32) : k_nd (ks_la u x) = k_nd u := rfl
theorem k_nd_nd (u : Pr) (x : Nat) : k_nd (ks_nd u x) = x := rfl
theorem k_nd_ph (u : Pr) (x : Int32) : k_nd (ks_ph u x) = k_nd u := rfl
theorem k_nd_bt (u : Pr) (x : Int32) : k_nd (ks_bt u x) = k_nd u := rfl
theorem k_nd_er (u : Pr) (x : Int64) : k_nd (ks_er u x) = k_nd u := rfl
theorem k_ph_mo (u : Pr) (x : Nat → Mo) : k_ph (ks_mo u x) = k_ph u := rfl
theorem k_ph_n (u : Pr) (x : Nat) : k_ph (ks_n u x) = k_ph u := rfl
theorem k_ph_la (u : Pr) (x : Nat → Int32) : k_ph (ks_la u x) = k_ph u := rfl
theorem k_ph_nd (u : Pr) (x : Nat) : k_ph (ks_nd u x) = k_ph u := rfl
theorem k_ph_ph (u : Pr) (x : Int32) : k_ph (ks_ph u x) = x := rfl
theorem k_ph_bt (u : Pr) (x : Int32) : k_ph (ks_bt u x) = k_ph u := rfl
theorem k_ph_er (u : Pr) (x : Int64) : k_ph (ks_er u x) = k_ph u := rfl
theorem k_bt_mo (u : Pr) (x : Nat → Mo) : k_bt (ks_mo u x) = k_bt u := rfl
theorem k_bt_n (u : Pr) (x : Nat) : k_bt (ks_n u x) = k_bt u := rfl
theorem k_bt_la (u : Pr) (x : Nat → Int32) : k_bt (ks_la u x) = k_bt u := rfl
theorem k_bt_nd (u : Pr) (x : Nat) : k_bt (ks_nd u x) = k_bt u := rfl
theorem k_bt_ph (u : Pr) (x : Int32) : k_bt (ks_ph u x) = k_bt u := rfl
theorem k_bt_bt (u : Pr) (x : Int32) : k_bt (ks_bt u x) = x := rfl
theorem k_bt_er (u : Pr) (x : Int64) : k_bt (ks_er u x) = k_bt u := rfl
theorem k_er_mo (u : Pr) (x : Nat → Mo) : k_er (ks_mo u x) = k_er u := rfl
theorem k_er_n (u : Pr) (x : Nat) : k_er (ks_n u x) = k_er u := rfl
theorem k_er_la (u : Pr) (x : Nat → Int32) : k_er (ks_la u x) = k_er u := rfl
theorem k_er_nd (u : Pr) (x : Nat) : k_er (ks_nd u x) = k_er u := rfl
theorem k_er_ph (u : Pr) (x : Int32) : k_er (ks_ph u x) = k_er u := rfl
theorem k_er_bt (u : Pr) (x : Int32) : k_er (ks_bt u x) = k_er u := rfl
theorem k_er_er (u : Pr) (x : Int64) : k_er (ks_er u x) = x := rfl
abbrev Mx : Type := Row × Row × Row × Pr × Iv
def x_tx (u : Mx) : Row := u.1
def xs_tx (u : Mx) (x : Row) : Mx := (x, u.2.1, u.2.2.1, u.2.2.2.1, u.2.2.2.2)
def x_en (u : Mx) : Row := u.2.1
def xs_en (u : Mx) (x : Row) : Mx := (u.1, x, u.2.2.1, u.2.2.2.1, u.2.2.2.2)
def x_de (u : Mx) : Row := u.2.2.1
def xs_de (u : Mx) (x : Row) : Mx := (u.1, u.2.1, x, u.2.2.2.1, u.2.2.2.2)
def x_pr (u : Mx) : Pr := u.2.2.2.1
def xs_pr (u : Mx) (x : Pr) : Mx := (u.1, u.2.1, u.2.2.1, x, u.2.2.2.2)
def x_iv (u : Mx) : Iv := u.2.2.2.2
def xs_iv (u : Mx) (x : Iv) : Mx := (u.1, u.2.1, u.2.2.1, u.2.2.2.1, x)
theorem x_tx_tx (u : Mx) (x : Row) : x_tx (xs_tx u x) = x := rfl
theorem x_tx_en (u : Mx) (x : Row) : x_tx (xs_en u x) = x_tx u := rfl
theorem x_tx_de (u : Mx) (x : Row) : x_tx (xs_de u x) = x_tx u := rfl
theorem x_tx_pr (u : Mx) (x : Pr) : x_tx (xs_pr u x) = x_tx u := rfl
theorem x_tx_iv (u : Mx) (x : Iv) : x_tx (xs_iv u x) = x_tx u := rfl
theorem x_en_tx (u : Mx) (x : Row) : x_en (xs_tx u x) = x_en u := rfl
theorem x_en_en (u : Mx) (x : Row) : x_en (xs_en u x) = x := rfl
theorem x_en_de (u : Mx) (x : Row) : x_en (xs_de u x) = x_en u := rfl
theorem x_en_pr (u : Mx) (x : Pr) : x_en (xs_pr u x) = x_en u := rfl
theorem x_en_iv (u : Mx) (x : Iv) : x_en (xs_iv u x) = x_en u := rfl
theorem x_de_tx (u : Mx) (x : Row) : x_de (xs_tx u x) = x_de u := rfl
theorem x_de_en (u : Mx) (x : Row) : x_de (xs_en u x) = x_de u := rfl
theorem x_de_de (u : Mx) (x : Row) : x_de (xs_de u x) = x := rfl
theorem x_de_pr (u : Mx) (x : Pr) : x_de (xs_pr u x) = x_de u := rfl
theorem x_de_iv (u : Mx) (x : Iv) : x_de (xs_iv u x) = x_de u := rfl
theorem x_pr_tx (u : Mx) (x : Row) : x_pr (xs_tx u x) = x_pr u := rfl
theorem x_pr_en (u : Mx) (x : Row) : x_pr (xs_en u x) = x_pr u := rfl
theorem x_pr_de (u : Mx) (x : Row) : x_pr (xs_de u x) = x_pr u := rfl
theorem x_pr_pr (u : Mx) (x : Pr) : x_pr (xs_pr u x) = x := rfl
theorem x_pr_iv (u : Mx) (x : Iv) : x_pr (xs_iv u x) = x_pr u := rfl
theorem x_iv_tx (u : Mx) (x : Row) : x_iv (xs_tx u x) = x_iv u := rfl
theorem x_iv_en (u : Mx) (x : Row) : x_iv (xs_en u x) = x_iv u := rfl
theorem x_iv_de (u : Mx) (x : Row) : x_iv (xs_de u x) = x_iv u := rfl
theorem x_iv_pr (u : Mx) (x : Pr) : x_iv (xs_pr u x) = x_iv u := rfl
theorem x_iv_iv (u : Mx) (x : Iv) : x_iv (xs_iv u x) = x := rfl
abbrev RS : Type := Int32 × Nat × (Nat → Int32) × (Nat → Int32) × (Nat → Int32) × Nat × (Nat → Int32) × (Nat → Int32) × (Nat → Int32) × (Nat → Int32) × (Nat → Int32) × (Nat → Int32) × (Nat → Int32) × Nat × Int32 × Int64 × Nat × (Nat → Int32) × Nat × (Nat → Int32) × Int64 × Int64
def r_th (u : RS) : Int32 := u.1
def rs_th (u : RS) (x : Int32) : RS := (x, u.2.1, u.2.2.1, u.2.2.2.1, u.2.2.2.2.1, u.2.2.2.2.2.1, u.2.2.2.2.2.2.1, u.2.2.2.2.2.2.2.1, u.2.2.2.2.2.2.2.2.1, u.2.2.2.2.2.2.2.2.2.1, u.2.2.2.2.2.2.2.2.2.2.1, u.2.2.2.2.2.2.2.2.2.2.2.1, u.2.2.2.2.2.2.2.2.2.2.2.2.1, u.2.2.2.2.2.2.2.2.2.2.2.2.2.1, u.2.2.2.2.2.2.2.2.2.2.2.2.2.2.1, u.2.2.2.2.2.2.2.2.2.2.2.2.2.2.2.1, u.2.2.2.2.2.2.2.2.2.2.2.2.2.2.2.2.1, u.2.2.2.2.2.2.2.2.2.2.2.2.2.2.2.2.2.1, u.2.2.2.2.2.2.2.2.2.2.2.2.2.2.2.2.2.2.1, u.2.2.2.2.2.2.2.2.2.2.2.2.2.2.2.2.2.2.2.1, u.2.2.2.2.2.2.2.2.2.2.2.2.2.2.2.2.2.2.2.2.1, u.2.2.2.2.2.2.2.2.2.2.2.2.2.2.2.2.2.2.2.2.2)
def r_n (u : RS) : Nat := u.2.1
def rs_n (u : RS) (x : Nat) : RS := (u.1, x, u.2.2.1, u.2.2.2.1, u.2.2.2.2.1, u.2.2.2.2.2.1, u.2.2.2.2.2.2.1, u.2.2.2.2.2.2.2.1, u.2.2.2.2.2.2.2.2.1, u.2.2.2.2.2.2.2.2.2.1, u.2.2.2.2.2.2.2.2.2.2.1, u.2.2.2.2.2.2.2.2.2.2.2.1, u.2.2.2.2.2.2.2.2.2.2.2.2.1, u.2.2.2.2.2.2.2.2.2.2.2.2.2.1, u.2.2.2.2.2.2.2.2.2.2.2.2.2.2.1, u.2.2.2.2.2.2.2.2.2.2.2.2.2.2.2.1, u.2.2.2.2.2.2.2.2.2.2.2.2.2.2.2.2.1, u.2.2.2.2.2.2.2.2.2.2.2.2.2.2.2.2.2.1, u.2.2.2.2.2.2.2.2.2.2.2.2.2.2.2.2.2.2.1, u.2.2.2.2.2.2.2.2.2.2.2.2.2.2.2.2.2.2.2.1, u.2.2.2.2.2.2.2.2.2.2.2.2.2.2.2.2.2.2.2.2.1, u.2.2.2.2.2.2.2.2.2.2.2.2.2.2.2.2.2.2.2.2.2)
def r_od (u : RS) : Nat → Int32 := u.2.2.1
def rs_od (u : RS) (x : Nat → Int32) : RS := (u.1, u.2.1, x, u.2.2.2.1, u.2.2.2.2.1, u.2.2.2.2.2.1, u.2.2.2.2.2.2.1, u.2.2.2.2.2.2.2.1, u.2.2.2.2.2.2.2.2.1, u.2.2.2.2.2.2.2.2.2.1, u.2.2.2.2.2.2.2.2.2.2.1, u.2.2.2.2.2.2.2.2.2.2.2.1, u.2.2.2.2.2.2.2.2.2.2.2.2.1, u.2.2.2.2.2.2.2.2.2.2.2.2.2.1, u.2.2.2.2.2.2.2.2.2.2.2.2.2.2.1, u.2.2.2.2.2.2.2.2.2.2.2.2.2.2.2.1, u.2.2.2.2.2.2.2.2.2.2.2.2.2.2.2.2.1, u.2.2.2.2.2.2.2.2.2.2.2.2.2.2.2.2.2.1, u.2.2.2.2.2.2.2.2.2.2.2.2.2.2.2.2.2.2.1, u.2.2.2.2.2.2.2.2.2.2.2.2.2.2.2.2.2.2.2.1, u.2.2.2.2.2.2.2.2.2.2.2.2.2.2.2.2.2.2.2.2.1, u.2.2.2.2.2.2.2.2.2.2.2.2.2.2.2.2.2.2.2.2.2)
def r_ra (u : RS) : Nat → Int32 := u.2.2.2.1
def rs_ra (u : RS) (x : Nat → Int32) : RS := (u.1, u.2.1, u.2.2.1, x, u.2.2.2.2.1, u.2.2.2.2.2.1, u.2.2.2.2.2.2.1, u.2.2.2.2.2.2.2.1, u.2.2.2.2.2.2.2.2.1, u.2.2.2.2.2.2.2.2.2.1, u.2.2.2.2.2.2.2.2.2.2.1, u.2.2.2.2.2.2.2.2.2.2.2.1, u.2.2.2.2.2.2.2.2.2.2.2.2.1, u.2.2.2.2.2.2.2.2.2.2.2.2.2.1, u.2.2.2.2.2.2.2.2.2.2.2.2.2.2.1, u.2.2.2.2.2.2.2.2.2.2.2.2.2.2.2.1, u.2.2.2.2.2.2.2.2.2.2.2.2.2.2.2.2.1, u.2.2.2.2.2.2.2.2.2.2.2.2.2.2.2.2.2.1, u.2.2.2.2.2.2.2.2.2.2.2.2.2.2.2.2.2.2.1, u.2.2.2.2.2.2.2.2.2.2.2.2.2.2.2.2.2.2.2.1, u.2.2.2.2.2.2.2.2.2.2.2.2.2.2.2.2.2.2.2.2.1, u.2.2.2.2.2.2.2.2.2.2.2.2.2.2.2.2.2.2.2.2.2)
def r_lo (u : RS) : Nat → Int32 := u.2.2.2.2.1
def rs_lo (u : RS) (x : Nat → Int32) : RS := (u.1, u.2.1, u.2.2.1, u.2.2.2.1, x, u.2.2.2.2.2.1, u.2.2.2.2.2.2.1, u.2.2.2.2.2.2.2.1, u.2.2.2.2.2.2.2.2.1, u.2.2.2.2.2.2.2.2.2.1, u.2.2.2.2.2.2.2.2.2.2.1, u.2.2.2.2.2.2.2.2.2.2.2.1, u.2.2.2.2.2.2.2.2.2.2.2.2.1, u.2.2.2.2.2.2.2.2.2.2.2.2.2.1, u.2.2.2.2.2.2.2.2.2.2.2.2.2.2.1, u.2.2.2.2.2.2.2.2.2.2.2.2.2.2.2.1, u.2.2.2.2.2.2.2.2.2.2.2.2.2.2.2.2.1, u.2.2.2.2.2.2.2.2.2.2.2.2.2.2.2.2.2.1, u.2.2.2.2.2.2.2.2.2.2.2.2.2.2.2.2.2.2.1, u.2.2.2.2.2.2.2.2.2.2.2.2.2.2.2.2.2.2.2.1, u.2.2.2.2.2.2.2.2.2.2.2.2.2.2.2.2.2.2.2.2.1, u.2.2.2.2.2.2.2.2.2.2.2.2.2.2.2.2.2.2.2.2.2)
def r_sz (u : RS) : Nat := u.2.2.2.2.2.1
def rs_sz (u : RS) (x : Nat) : RS := (u.1, u.2.1, u.2.2.1, u.2.2.2.1, u.2.2.2.2.1, x, u.2.2.2.2.2.2.1, u.2.2.2.2.2.2.2.1, u.2.2.2.2.2.2.2.2.1, u.2.2.2.2.2.2.2.2.2.1, u.2.2.2.2.2.2.2.2.2.2.1, u.2.2.2.2.2.2.2.2.2.2.2.1, u.2.2.2.2.2.2.2.2.2.2.2.2.1, u.2.2.2.2.2.2.2.2.2.2.2.2.2.1, u.2.2.2.2.2.2.2.2.2.2.2.2.2.2.1, u.2.2.2.2.2.2.2.2.2.2.2.2.2.2.2.1, u.2.2.2.2.2.2.2.2.2.2.2.2.2.2.2.2.1, u.2.2.2.2.2.2.2.2.2.2.2.2.2.2.2.2.2.1, u.2.2.2.2.2.2.2.2.2.2.2.2.2.2.2.2.2.2.1, u.2.2.2.2.2.2.2.2.2.2.2.2.2.2.2.2.2.2.2.1, u.2.2.2.2.2.2.2.2.2.2.2.2.2.2.2.2.2.2.2.2.1, u.2.2.2.2.2.2.2.2.2.2.2.2.2.2.2.2.2.2.2.2.2)
def r_tx (u : RS) : Nat → Int32 := u.2.2.2.2.2.2.1
def rs_tx (u : RS) (x : Nat → Int32) : RS := (u.1, u.2.1, u.2.2.1, u.2.2.2.1, u.2.2.2.2.1, u.2.2.2.2.2.1, x, u.2.2.2.2.2.2.2.1, u.2.2.2.2.2.2.2.2.1, u.2.2.2.2.2.2.2.2.2.1, u.2.2.2.2.2.2.2.2.2.2.1, u.2.2.2.2.2.2.2.2.2.2.2.1, u.2.2.2.2.2.2.2.2.2.2.2.2.1, u.2.2.2.2.2.2.2.2.2.2.2.2.2.1, u.2.2.2.2.2.2.2.2.2.2.2.2.2.2.1, u.2.2.2.2.2.2.2.2.2.2.2.2.2.2.2.1, u.2.2.2.2.2.2.2.2.2.2.2.2.2.2.2.2.1, u.2.2.2.2.2.2.2.2.2.2.2.2.2.2.2.2.2.1, u.2.2.2.2.2.2.2.2.2.2.2.2.2.2.2.2.2.2.1, u.2.2.2.2.2.2.2.2.2.2.2.2.2.2.2.2.2.2.2.1, u.2.2.2.2.2.2.2.2.2.2.2.2.2.2.2.2.2.2.2.2.1, u.2.2.2.2.2.2.2.2.2.2.2.2.2.2.2.2.2.2.2.2.2)
def r_co (u : RS) : Nat → Int32 := u.2.2.2.2.2.2.2.1
def rs_co (u : RS) (x : Nat → Int32) : RS := (u.1, u.2.1, u.2.2.1, u.2.2.2.1, u.2.2.2.2.1, u.2.2.2.2.2.1, u.2.2.2.2.2.2.1, x, u.2.2.2.2.2.2.2.2.1, u.2.2.2.2.2.2.2.2.2.1, u.2.2.2.2.2.2.2.2.2.2.1, u.2.2.2.2.2.2.2.2.2.2.2.1, u.2.2.2.2.2.2.2.2.2.2.2.2.1, u.2.2.2.2.2.2.2.2.2.2.2.2.2.1, u.2.2.2.2.2.2.2.2.2.2.2.2.2.2.1, u.2.2.2.2.2.2.2.2.2.2.2.2.2.2.2.1, u.2.2.2.2.2.2.2.2.2.2.2.2.2.2.2.2.1, u.2.2.2.2.2.2.2.2.2.2.2.2.2.2.2.2.2.1, u.2.2.2.2.2.2.2.2.2.2.2.2.2.2.2.2.2.2.1, u.2.2.2.2.2.2.2.2.2.2.2.2.2.2.2.2.2.2.2.1, u.2.2.2.2.2.2.2.2.2.2.2.2.2.2.2.2.2.2.2.2.1, u.2.2.2.2.2.2.2.2.2.2.2.2.2.2.2.2.2.2.2.2.2)
def r_lc (u : RS) : Nat → Int32 := u.2.2.2.2.2.2.2.2.1
def rs_lc (u : RS) (x : Nat → Int32) : RS := (u.1, u.2.1, u.2.2.1, u.2.2.2.1, u.2.2.2.2.1, u.2.2.2.2.2.1, u.2.2.2.2.2.2.1, u.2.2.2.2.2.2.2.1, x, u.2.2.2.2.2.2.2.2.2.1, u.2.2.2.2.2.2.2.2.2.2.1, u.2.2.2.2.2.2.2.2.2.2.2.1, u.2.2.2.2.2.2.2.2.2.2.2.2.1, u.2.2.2.2.2.2.2.2.2.2.2.2.2.1, u.2.2.2.2.2.2.2.2.2.2.2.2.2.2.1, u.2.2.2.2.2.2.2.2.2.2.2.2.2.2.2.1, u.2.2.2.2.2.2.2.2.2.2.2.2.2.2.2.2.1, u.2.2.2.2.2.2.2.2.2.2.2.2.2.2.2.2.2.1, u.2.2.2.2.2.2.2.2.2.2.2.2.2.2.2.2.2.2.1, u.2.2.2.2.2.2.2.2.2.2.2.2.2.2.2.2.2.2.2.1, u.2.2.2.2.2.2.2.2.2.2.2.2.2.2.2.2.2.2.2.2.1, u.2.2.2.2.2.2.2.2.2.2.2.2.2.2.2.2.2.2.2.2.2)
def r_ln (u : RS) : Nat → Int32 := u.2.2.2.2.2.2.2.2.2.1
def rs_ln (u : RS) (x : Nat → Int32) : RS := (u.1, u.2.1, u.2.2.1, u.2.2.2.1, u.2.2.2.2.1, u.2.2.2.2.2.1, u.2.2.2.2.2.2.1, u.2.2.2.2.2.2.2.1, u.2.2.2.2.2.2.2.2.1, x, u.2.2.2.2.2.2.2.2.2.2.1, u.2.2.2.2.2.2.2.2.2.2.2.1, u.2.2.2.2.2.2.2.2.2.2.2.2.1, u.2.2.2.2.2.2.2.2.2.2.2.2.2.1, u.2.2.2.2.2.2.2.2.2.2.2.2.2.2.1, u.2.2.2.2.2.2.2.2.2.2.2.2.2.2.2.1, u.2.2.2.2.2.2.2.2.2.2.2.2.2.2.2.2.1, u.2.2.2.2.2.2.2.2.2.2.2.2.2.2.2.2.2.1, u.2.2.2.2.2.2.2.2.2.2.2.2.2.2.2.2.2.2.1, u.2.2.2.2.2.2.2.2.2.2.2.2.2.2.2.2.2.2.2.1, u.2.2.2.2.2.2.2.2.2.2.2.2.2.2.2.2.2.2.2.2.1, u.2.2.2.2.2.2.2.2.2.2.2.2.2.2.2.2.2.2.2.2.2)
def r_we (u : RS) : Nat → Int32 := u.2.2.2.2.2.2.2.2.2.2.1
def rs_we (u : RS) (x : Nat → Int32) : RS := (u.1, u.2.1, u.2.2.1, u.2.2.2.1, u.2.2.2.2.1, u.2.2.2.2.2.1, u.2.2.2.2.2.2.1, u.2.2.2.2.2.2.2.1, u.2.2.2.2.2.2.2.2.1, u.2.2.2.2.2.2.2.2.2.1, x, u.2.2.2.2.2.2.2.2.2.2.2.1, u.2.2.2.2.2.2.2.2.2.2.2.2.1, u.2.2.2.2.2.2.2.2.2.2.2.2.2.1, u.2.2.2.2.2.2.2.2.2.2.2.2.2.2.1, u.2.2.2.2.2.2.2.2.2.2.2.2.2.2.2.1, u.2.2.2.2.2.2.2.2.2.2.2.2.2.2.2.2.1, u.2.2.2.2.2.2.2.2.2.2.2.2.2.2.2.2.2.1, u.2.2.2.2.2.2.2.2.2.2.2.2.2.2.2.2.2.2.1, u.2.2.2.2.2.2.2.2.2.2.2.2.2.2.2.2.2.2.2.1, u.2.2.2.2.2.2.2.2.2.2.2.2.2.2.2.2.2.2.2.2.1, u.2.2.2.2.2.2.2.2.2.2.2.2.2.2.2.2.2.2.2.2.2)
def r_cl (u : RS) : Nat → Int32 := u.2.2.2.2.2.2.2.2.2.2.2.1
def rs_cl (u : RS) (x : Nat → Int32) : RS := (u.1, u.2.1, u.2.2.1, u.2.2.2.1, u.2.2.2.2.1, u.2.2.2.2.2.1, u.2.2.2.2.2.2.1, u.2.2.2.2.2.2.2.1, u.2.2.2.2.2.2.2.2.1, u.2.2.2.2.2.2.2.2.2.1, u.2.2.2.2.2.2.2.2.2.2.1, x, u.2.2.2.2.2.2.2.2.2.2.2.2.1, u.2.2.2.2.2.2.2.2.2.2.2.2.2.1, u.2.2.2.2.2.2.2.2.2.2.2.2.2.2.1, u.2.2.2.2.2.2.2.2.2.2.2.2.2.2.2.1, u.2.2.2.2.2.2.2.2.2.2.2.2.2.2.2.2.1, u.2.2.2.2.2.2.2.2.2.2.2.2.2.2.2.2.2.1, u.2.2.2.2.2.2.2.2.2.2.2.2.2.2.2.2.2.2.1, u.2.2.2.2.2.2.2.2.2.2.2.2.2.2.2.2.2.2.2.1, u.2.2.2.2.2.2.2.2.2.2.2.2.2.2.2.2.2.2.2.2.1, u.2.2.2.2.2.2.2.2.2.2.2.2.2.2.2.2.2.2.2.2.2)
def r_hi (u : RS) : Nat → Int32 := u.2.2.2.2.2.2.2.2.2.2.2.2.1
def rs_hi (u : RS) (x : Nat → Int32) : RS := (u.1, u.2.1, u.2.2.1, u.2.2.2.1, u.2.2.2.2.1, u.2.2.2.2.2.1, u.2.2.2.2.2.2.1, u.2.2.2.2.2.2.2.1, u.2.2.2.2.2.2.2.2.1, u.2.2.2.2.2.2.2.2.2.1, u.2.2.2.2.2.2.2.2.2.2.1, u.2.2.2.2.2.2.2.2.2.2.2.1, x, u.2.2.2.2.2.2.2.2.2.2.2.2.2.1, u.2.2.2.2.2.2.2.2.2.2.2.2.2.2.1, u.2.2.2.2.2.2.2.2.2.2.2.2.2.2.2.1, u.2.2.2.2.2.2.2.2.2.2.2.2.2.2.2.2.1, u.2.2.2.2.2.2.2.2.2.2.2.2.2.2.2.2.2.1, u.2.2.2.2.2.2.2.2.2.2.2.2.2.2.2.2.2.2.1, u.2.2.2.2.2.2.2.2.2.2.2.2.2.2.2.2.2.2.2.1, u.2.2.2.2.2.2.2.2.2.2.2.2.2.2.2.2.2.2.2.2.1, u.2.2.2.2.2.2.2.2.2.2.2.2.2.2.2.2.2.2.2.2.2)
def r_nd (u : RS) : Nat := u.2.2.2.2.2.2.2.2.2.2.2.2.2.1
def rs_nd (u : RS) (x : Nat) : RS := (u.1, u.2.1, u.2.2.1, u.2.2.2.1, u.2.2.2.2.1, u.2.2.2.2.2.1, u.2.2.2.2.2.2.1, u.2.2.2.2.2.2.2.1, u.2.2.2.2.2.2.2.2.1, u.2.2.2.2.2.2.2.2.2.1, u.2.2.2.2.2.2.2.2.2.2.1, u.2.2.2.2.2.2.2.2.2.2.2.1, u.2.2.2.2.2.2.2.2.2.2.2.2.1, x, u.2.2.2.2.2.2.2.2.2.2.2.2.2.2.1, u.2.2.2.2.2.2.2.2.2.2.2.2.2.2.2.1, u.2.2.2.2.2.2.2.2.2.2.2.2.2.2.2.2.1, u.2.2.2.2.2.2.2.2.2.2.2.2.2.2.2.2.2.1, u.2.2.2.2.2.2.2.2.2.2.2.2.2.2.2.2.2.2.1, u.2.2.2.2.2.2.2.2.2.2.2.2.2.2.2.2.2.2.2.1, u.2.2.2.2.2.2.2.2.2.2.2.2.2.2.2.2.2.2.2.2.1, u.2.2.2.2.2.2.2.2.2.2.2.2.2.2.2.2.2.2.2.2.2)
def r_ob (u : RS) : Int32 := u.2.2.2.2.2.2.2.2.2.2.2.2.2.2.1
def rs_ob (u : RS) (x : Int32) : RS := (u.1, u.2.1, u.2.2.1, u.2.2.2.1, u.2.2.2.2.1, u.2.2.2.2.2.1, u.2.2.2.2.2.2.1, u.2.2.2.2.2.2.2.1, u.2.2.2.2.2.2.2.2.1, u.2.2.2.2.2.2.2.2.2.1, u.2.2.2.2.2.2.2.2.2.2.1, u.2.2.2.2.2.2.2.2.2.2.2.1, u.2.2.2.2.2.2.2.2.2.2.2.2.1, u.2.2.2.2.2.2.2.2.2.2.2.2.2.1, x, u.2.2.2.2.2.2.2.2.2.2.2.2.2.2.2.1, u.2.2.2.2.2.2.2.2.2.2.2.2.2.2.2.2.1, u.2.2.2.2.2.2.2.2.2.2.2.2.2.2.2.2.2.1, u.2.2.2.2.2.2.2.2.2.2.2.2.2.2.2.2.2.2.1, u.2.2.2.2.2.2.2.2.2.2.2.2.2.2.2.2.2.2.2.1, u.2.2.2.2.2.2.2.2.2.2.2.2.2.2.2.2.2.2.2.2.1, u.2.2.2.2.2.2.2.2.2.2.2.2.2.2.2.2.2.2.2.2.2)
def r_er (u : RS) : Int64 := u.2.2.2.2.2.2.2.2.2.2.2.2.2.2.2.1
def rs_er (u : RS) (x : Int64) : RS := (u.1, u.2.1, u.2.2.1, u.2.2.2.1, u.2.2.2.2.1, u.2.2.2.2.2.1, u.2.2.2.2.2.2.1, u.2.2.2.2.2.2.2.1, u.2.2.2.2.2.2.2.2.1, u.2.2.2.2.2.2.2.2.2.1, u.2.2.2.2.2.2.2.2.2.2.1, u.2.2.2.2.2.2.2.2.2.2.2.1, u.2.2.2.2.2.2.2.2.2.2.2.2.1, u.2.2.2.2.2.2.2.2.2.2.2.2.2.1, u.2.2.2.2.2.2.2.2.2.2.2.2.2.2.1, x, u.2.2.2.2.2.2.2.2.2.2.2.2.2.2.2.2.1, u.2.2.2.2.2.2.2.2.2.2.2.2.2.2.2.2.2.1, u.2.2.2.2.2.2.2.2.2.2.2.2.2.2.2.2.2.2.1, u.2.2.2.2.2.2.2.2.2.2.2.2.2.2.2.2.2.2.2.1, u.2.2.2.2.2.2.2.2.2.2.2.2.2.2.2.2.2.2.2.2.1, u.2.2.2.2.2.2.2.2.2.2.2.2.2.2.2.2.2.2.2.2.2)
def r_cs (u : RS) : Nat := u.2.2.2.2.2.2.2.2.2.2.2.2.2.2.2.2.1
def rs_cs (u : RS) (x : Nat) : RS := (u.1, u.2.1, u.2.2.1, u.2.2.2.1, u.2.2.2.2.1, u.2.2.2.2.2.1, u.2.2.2.2.2.2.1, u.2.2.2.2.2.2.2.1, u.2.2.2.2.2.2.2.2.1, u.2.2.2.2.2.2.2.2.2.1, u.2.2.2.2.2.2.2.2.2.2.1, u.2.2.2.2.2.2.2.2.2.2.2.1, u.2.2.2.2.2.2.2.2.2.2.2.2.1, u.2.2.2.2.2.2.2.2.2.2.2.2.2.1, u.2.2.2.2.2.2.2.2.2.2.2.2.2.2.1, u.2.2.2.2.2.2.2.2.2.2.2.2.2.2.2.1, x, u.2.2.2.2.2.2.2.2.2.2.2.2.2.2.2.2.2.1, u.2.2.2.2.2.2.2.2.2.2.2.2.2.2.2.2.2.2.1, u.2.2.2.2.2.2.2.2.2.2.2.2.2.2.2.2.2.2.2.1, u.2.2.2.2.2.2.2.2.2.2.2.2.2.2.2.2.2.2.2.2.1, u.2.2.2.2.2.2.2.2.2.2.2.2.2.2.2.2.2.2.2.2.2)
def r_cd (u : RS) : Nat → Int32 := u.2.2.2.2.2.2.2.2.2.2.2.2.2.2.2.2.2.1
def rs_cd (u : RS) (x : Nat → Int32) : RS := (u.1, u.2.1, u.2.2.1, u.2.2.2.1, u.2.2.2.2.1, u.2.2.2.2.2.1, u.2.2.2.2.2.2.1, u.2.2.2.2.2.2.2.1, u.2.2.2.2.2.2.2.2.1, u.2.2.2.2.2.2.2.2.2.1, u.2.2.2.2.2.2.2.2.2.2.1, u.2.2.2.2.2.2.2.2.2.2.2.1, u.2.2.2.2.2.2.2.2.2.2.2.2.1, u.2.2.2.2.2.2.2.2.2.2.2.2.2.1, u.2.2.2.2.2.2.2.2.2.2.2.2.2.2.1, u.2.2.2.2.2.2.2.2.2.2.2.2.2.2.2.1, u.2.2.2.2.2.2.2.2.2.2.2.2.2.2.2.2.1, x, u.2.2.2.2.2.2.2.2.2.2.2.2.2.2.2.2.2.2.1, u.2.2.2.2.2.2.2.2.2.2.2.2.2.2.2.2.2.2.2.1, u.2.2.2.2.2.2.2.2.2.2.2.2.2.2.2.2.2.2.2.2.1, u.2.2.2.2.2.2.2.2.2.2.2.2.2.2.2.2.2.2.2.2.2)
def r_mk (u : RS) : Nat := u.2.2.2.2.2.2.2.2.2.2.2.2.2.2.2.2.2.2.1
def rs_mk (u : RS) (x : Nat) : RS := (u.1, u.2.1, u.2.2.1, u.2.2.2.1, u.2.2.2.2.1, u.2.2.2.2.2.1, u.2.2.2.2.2.2.1, u.2.2.2.2.2.2.2.1, u.2.2.2.2.2.2.2.2.1, u.2.2.2.2.2.2.2.2.2.1, u.2.2.2.2.2.2.2.2.2.2.1, u.2.2.2.2.2.2.2.2.2.2.2.1, u.2.2.2.2.2.2.2.2.2.2.2.2.1, u.2.2.2.2.2.2.2.2.2.2.2.2.2.1, u.2.2.2.2.2.2.2.2.2.2.2.2.2.2.1, u.2.2.2.2.2.2.2.2.2.2.2.2.2.2.2.1, u.2.2.2.2.2.2.2.2.2.2.2.2.2.2.2.2.1, u.2.2.2.2.2.2.2.2.2.2.2.2.2.2.2.2.2.1, x, u.2.2.2.2.2.2.2.2.2.2.2.2.2.2.2.2.2.2.2.1, u.2.2.2.2.2.2.2.2.2.2.2.2.2.2.2.2.2.2.2.2.1, u.2.2.2.2.2.2.2.2.2.2.2.2.2.2.2.2.2.2.2.2.2)
def r_ou (u : RS) : Nat → Int32 := u.2.2.2.2.2.2.2.2.2.2.2.2.2.2.2.2.2.2.2.1
def rs_ou (u : RS) (x : Nat → Int32) : RS := (u.1, u.2.1, u.2.2.1, u.2.2.2.1, u.2.2.2.2.1, u.2.2.2.2.2.1, u.2.2.2.2.2.2.1, u.2.2.2.2.2.2.2.1, u.2.2.2.2.2.2.2.2.1, u.2.2.2.2.2.2.2.2.2.1, u.2.2.2.2.2.2.2.2.2.2.1, u.2.2.2.2.2.2.2.2.2.2.2.1, u.2.2.2.2.2.2.2.2.2.2.2.2.1, u.2.2.2.2.2.2.2.2.2.2.2.2.2.1, u.2.2.2.2.2.2.2.2.2.2.2.2.2.2.1, u.2.2.2.2.2.2.2.2.2.2.2.2.2.2.2.1, u.2.2.2.2.2.2.2.2.2.2.2.2.2.2.2.2.1, u.2.2.2.2.2.2.2.2.2.2.2.2.2.2.2.2.2.1, u.2.2.2.2.2.2.2.2.2.2.2.2.2.2.2.2.2.2.1, x, u.2.2.2.2.2.2.2.2.2.2.2.2.2.2.2.2.2.2.2.2.1, u.2.2.2.2.2.2.2.2.2.2.2.2.2.2.2.2.2.2.2.2.2)
def r_lw (u : RS) : Int64 := u.2.2.2.2.2.2.2.2.2.2.2.2.2.2.2.2.2.2.2.2.1
def rs_lw (u : RS) (x : Int64) : RS := (u.1, u.2.1, u.2.2.1, u.2.2.2.1, u.2.2.2.2.1, u.2.2.2.2.2.1, u.2.2.2.2.2.2.1, u.2.2.2.2.2.2.2.1, u.2.2.2.2.2.2.2.2.1, u.2.2.2.2.2.2.2.2.2.1, u.2.2.2.2.2.2.2.2.2.2.1, u.2.2.2.2.2.2.2.2.2.2.2.1, u.2.2.2.2.2.2.2.2.2.2.2.2.1, u.2.2.2.2.2.2.2.2.2.2.2.2.2.1, u.2.2.2.2.2.2.2.2.2.2.2.2.2.2.1, u.2.2.2.2.2.2.2.2.2.2.2.2.2.2.2.1, u.2.2.2.2.2.2.2.2.2.2.2.2.2.2.2.2.1, u.2.2.2.2.2.2.2.2.2.2.2.2.2.2.2.2.2.1, u.2.2.2.2.2.2.2.2.2.2.2.2.2.2.2.2.2.2.1, u.2.2.2.2.2.2.2.2.2.2.2.2.2.2.2.2.2.2.2.1, x, u.2.2.2.2.2.2.2.2.2.2.2.2.2.2.2.2.2.2.2.2.2)
def r_hg (u : RS) : Int64 := u.2.2.2.2.2.2.2.2.2.2.2.2.2.2.2.2.2.2.2.2.2
def rs_hg (u : RS) (x : Int64) : RS := (u.1, u.2.1, u.2.2.1, u.2.2.2.1, u.2.2.2.2.1, u.2.2.2.2.2.1, u.2.2.2.2.2.2.1, u.2.2.2.2.2.2.2.1, u.2.2.2.2.2.2.2.2.1, u.2.2.2.2.2.2.2.2.2.1, u.2.2.2.2.2.2.2.2.2.2.1, u.2.2.2.2.2.2.2.2.2.2.2.1, u.2.2.2.2.2.2.2.2.2.2.2.2.1, u.2.2.2.2.2.2.2.2.2.2.2.2.2.1, u.2.2.2.2.2.2.2.2.2.2.2.2.2.2.1, u.2.2.2.2.2.2.2.2.2.2.2.2.2.2.2.1, u.2.2.2.2.2.2.2.2.2.2.2.2.2.2.2.2.1, u.2.2.2.2.2.2.2.2.2.2.2.2.2.2.2.2.2.1, u.2.2.2.2.2.2.2.2.2.2.2.2.2.2.2.2.2.2.1, u.2.2.2.2.2.2.2.2.2.2.2.2.2.2.2.2.2.2.2.1, u.2.2.2.2.2.2.2.2.2.2.2.2.2.2.2.2.2.2.2.2.1, x)
theorem r_th_th (u : RS) (x : Int32) : r_th (rs_th u x) = x := rfl
theorem r_th_n (u : RS) (x : Nat) : r_th (rs_n u x) = r_th u := rfl
theorem r_th_od (u : RS) (x : Nat → Int32) : r_th (rs_od u x) = r_th u := rfl
theorem r_th_ra (u : RS) (x : Nat → Int32) : r_th (rs_ra u x) = r_th u := rfl
theorem r_th_lo (u : RS) (x : Nat → Int32) : r_th (rs_lo u x) = r_th u := rfl
theorem r_th_sz (u : RS) (x : Nat) : r_th (rs_sz u x) = r_th u := rfl
theorem r_th_tx (u : RS) (x : Nat → Int32) : r_th (rs_tx u x) = r_th u := rfl
theorem r_th_co (u : RS) (x : Nat → Int32) : r_th (rs_co u x) = r_th u := rfl
theorem r_th_lc (u : RS) (x : Nat → Int32) : r_th (rs_lc u x) = r_th u := rfl
theorem r_th_ln (u : RS) (x : Nat → Int32) : r_th (rs_ln u x) = r_th u := rfl
theorem r_th_we (u : RS) (x : Nat → Int32) : r_th (rs_we u x) = r_th u := rfl
theorem r_th_cl (u : RS) (x : Nat → Int32) : r_th (rs_cl u x) = r_th u := rfl
theorem r_th_hi (u : RS) (x : Nat → Int32) : r_th (rs_hi u x) = r_th u := rfl
theorem r_th_nd (u : RS) (x : Nat) : r_th (rs_nd u x) = r_th u := rfl
theorem r_th_ob (u : RS) (x : Int32) : r_th (rs_ob u x) = r_th u := rfl
theorem r_th_er (u : RS) (x : Int64) : r_th (rs_er u x) = r_th u := rfl
theorem r_th_cs (u : RS) (x : Nat) : r_th (rs_cs u x) = r_th u := rfl
theorem r_th_cd (u : RS) (x : Nat → Int32) : r_th (rs_cd u x) = r_th u := rfl
theorem r_th_mk (u : RS) (x : Nat) : r_th (rs_mk u x) = r_th u := rfl
theorem r_th_ou (u : RS) (x : Nat → Int32) : r_th (rs_ou u x) = r_th u := rfl
theorem r_th_lw (u : RS) (x : Int64) : r_th (rs_lw u x) = r_th u := rfl
theorem r_th_hg (u : RS) (x : Int64) : r_th (rs_hg u x) = r_th u := rfl
theorem r_n_th (u : RS) (x : Int32) : r_n (rs_th u x) = r_n u := rfl
theorem r_n_n (u : RS) (x : Nat) : r_n (rs_n u x) = x := rfl
theorem r_n_od (u : RS) (x : Nat → Int32) : r_n (rs_od u x) = r_n u := rfl
theorem r_n_ra (u : RS) (x : Nat → Int32) : r_n (rs_ra u x) = r_n u := rfl
theorem r_n_lo (u : RS) (x : Nat → Int32) : r_n (rs_lo u x) = r_n u := rfl
theorem r_n_sz (u : RS) (x : Nat) : r_n (rs_sz u x) = r_n u := rfl
theorem r_n_tx (u : RS) (x : Nat → Int32) : r_n (rs_tx u x) = r_n u := rfl
theorem r_n_co (u : RS) (x : Nat → Int32) : r_n (rs_co u x) = r_n u := rfl
theorem r_n_lc (u : RS) (x : Nat → Int32) : r_n (rs_lc u x) = r_n u := rfl
theorem r_n_ln (u : RS) (x : Nat → Int32) : r_n (rs_ln u x) = r_n u := rfl
theorem r_n_we (u : RS) (x : Nat → Int32) : r_n (rs_we u x) = r_n u := rfl
theorem r_n_cl (u : RS) (x : Nat → Int32) : r_n (rs_cl u x) = r_n u := rfl
theorem r_n_hi (u : RS) (x : Nat → Int32) : r_n (rs_hi u x) = r_n u := rfl
theorem r_n_nd (u : RS) (x : Nat) : r_n (rs_nd u x) = r_n u := rfl
theorem r_n_ob (u : RS) (x : Int32) : r_n (rs_ob u x) = r_n u := rfl
theorem r_n_er (u : RS) (x : Int64) : r_n (rs_er u x) = r_n u := rfl
theorem r_n_cs (u : RS) (x : Nat) : r_n (rs_cs u x) = r_n u := rfl
theorem r_n_cd (u : RS) (x : Nat → Int32) : r_n (rs_cd u x) = r_n u := rfl
theorem r_n_mk (u : RS) (x : Nat) : r_n (rs_mk u x) = r_n u := rfl
theorem r_n_ou (u : RS) (x : Nat → Int32) : r_n (rs_ou u x) = r_n u := rfl
theorem r_n_lw (u : RS) (x : Int64) : r_n (rs_lw u x) = r_n u := rfl
theorem r_n_hg (u : RS) (x : Int64) : r_n (rs_hg u x) = r_n u := rfl
theorem r_od_th (u : RS) (x : Int32) : r_od (rs_th u x) = r_od u := rfl
theorem r_od_n (u : RS) (x : Nat) : r_od (rs_n u x) = r_od u := rfl
theorem r_od_od (u : RS) (x : Nat → Int32) : r_od (rs_od u x) = x := rfl
theorem r_od_ra (u : RS) (x : Nat → Int32) : r_od (rs_ra u x) = r_od u := rfl
theorem r_od_lo (u : RS) (x : Nat → Int32) : r_od (rs_lo u x) = r_od u := rfl
theorem r_od_sz (u : RS) (x : Nat) : r_od (rs_sz u x) = r_od u := rfl
theorem r_od_tx (u : RS) (x : Nat → Int32) : r_od (rs_tx u x) = r_od u := rfl
theorem r_od_co (u : RS) (x : Nat → Int32) : r_od (rs_co u x) = r_od u := rfl
theorem r_od_lc (u : RS) (x : Nat → Int32) : r_od (rs_lc u x) = r_od u := rfl
theorem r_od_ln (u : RS) (x : Nat → Int32) : r_od (rs_ln u x) = r_od u := rfl
theorem r_od_we (u : RS) (x : Nat → Int32) : r_od (rs_we u x) = r_od u := rfl
theorem r_od_cl (u : RS) (x : Nat → Int32) : r_od (rs_cl u x) = r_od u := rfl
theorem r_od_hi (u : RS) (x : Nat → Int32) : r_od (rs_hi u x) = r_od u := rfl
theorem r_od_nd (u : RS) (x : Nat) : r_od (rs_nd u x) = r_od u := rfl
theorem r_od_ob (u : RS) (x : Int32) : r_od (rs_ob u x) = r_od u := rfl
theorem r_od_er (u : RS) (x : Int64) : r_od (rs_er u x) = r_od u := rfl
theorem r_od_cs (u : RS) (x : Nat) : r_od (rs_cs u x) = r_od u := rfl
theorem r_od_cd (u : RS) (x : Nat → Int32) : r_od (rs_cd u x) = r_od u := rfl
theorem r_od_mk (u : RS) (x : Nat) : r_od (rs_mk u x) = r_od u := rfl
theorem r_od_ou (u : RS) (x : Nat → Int32) : r_od (rs_ou u x) = r_od u := rfl
theorem r_od_lw (u : RS) (x : Int64) : r_od (rs_lw u x) = r_od u := rfl
theorem r_od_hg (u : RS) (x : Int64) : r_od (rs_hg u x) = r_od u := rfl
theorem r_ra_th (u : RS) (x : Int32) : r_ra (rs_th u x) = r_ra u := rfl
theorem r_ra_n (u : RS) (x : Nat) : r_ra (rs_n u x) = r_ra u := rfl
theorem r_ra_od (u : RS) (x : Nat → Int32) : r_ra (rs_od u x) = r_ra u := rfl
theorem r_ra_ra (u : RS) (x : Nat → Int32) : r_ra (rs_ra u x) = x := rfl
theorem r_ra_lo (u : RS) (x : Nat → Int32) : r_ra (rs_lo u x) = r_ra u := rfl
theorem r_ra_sz (u : RS) (x : Nat) : r_ra (rs_sz u x) = r_ra u := rfl
theorem r_ra_tx (u : RS) (x : Nat → Int32) : r_ra (rs_tx u x) = r_ra u := rfl
theorem r_ra_co (u : RS) (x : Nat → Int32) : r_ra (rs_co u x) = r_ra u := rfl
theorem r_ra_lc (u : RS) (x : Nat → Int32) : r_ra (rs_lc u x) = r_ra u := rfl
theorem r_ra_ln (u : RS) (x : Nat → Int32) : r_ra (rs_ln u x) = r_ra u := rfl
theorem r_ra_we (u : RS) (x : Nat → Int32) : r_ra (rs_we u x) = r_ra u := rfl
theorem r_ra_cl (u : RS) (x : Nat → Int32) : r_ra (rs_cl u x) = r_ra u := rfl
theorem r_ra_hi (u : RS) (x : Nat → Int32) : r_ra (rs_hi u x) = r_ra u := rfl
theorem r_ra_nd (u : RS) (x : Nat) : r_ra (rs_nd u x) = r_ra u := rfl
theorem r_ra_ob (u : RS) (x : Int32) : r_ra (rs_ob u x) = r_ra u := rfl
theorem r_ra_er (u : RS) (x : Int64) : r_ra (rs_er u x) = r_ra u := rfl
theorem r_ra_cs (u : RS) (x : Nat) : r_ra (rs_cs u x) = r_ra u := rfl
theorem r_ra_cd (u : RS) (x : Nat → Int32) : r_ra (rs_cd u x) = r_ra u := rfl
theorem r_ra_mk (u : RS) (x : Nat) : r_ra (rs_mk u x) = r_ra u := rfl
theorem r_ra_ou (u : RS) (x : Nat → Int32) : r_ra (rs_ou u x) = r_ra u := rfl
theorem r_ra_lw (u : RS) (x : Int64) : r_ra (rs_lw u x) = r_ra u := rfl
theorem r_ra_hg (u : RS) (x : Int64) : r_ra (rs_hg u x) = r_ra u := rfl
theorem r_lo_th (u : RS) (x : Int32) : r_lo (rs_th u x) = r_lo u := rfl
theorem r_lo_n (u : RS) (x : Nat) : r_lo (rs_n u x) = r_lo u := rfl
theorem r_lo_od (u : RS) (x : Nat → Int32) : r_lo (rs_od u x) = r_lo u := rfl
theorem r_lo_ra (u : RS) (x : Nat → Int32) : r_lo (rs_ra u x) = r_lo u := rfl
theorem r_lo_lo (u : RS) (x : Nat → Int32) : r_lo (rs_lo u x) = x := rfl
theorem r_lo_sz (u : RS) (x : Nat) : r_lo (rs_sz u x) = r_lo u := rfl
theorem r_lo_tx (u : RS) (x : Nat → Int32) : r_lo (rs_tx u x) = r_lo u := rfl
theorem r_lo_co (u : RS) (x : Nat → Int32) : r_lo (rs_co u x) = r_lo u := rfl
theorem r_lo_lc (u : RS) (x : Nat → Int32) : r_lo (rs_lc u x) = r_lo u := rfl
theorem r_lo_ln (u : RS) (x : Nat → Int32) : r_lo (rs_ln u x) = r_lo u := rfl
theorem r_lo_we (u : RS) (x : Nat → Int32) : r_lo (rs_we u x) = r_lo u := rfl
theorem r_lo_cl (u : RS) (x : Nat → Int32) : r_lo (rs_cl u x) = r_lo u := rfl
theorem r_lo_hi (u : RS) (x : Nat → Int32) : r_lo (rs_hi u x) = r_lo u := rfl
theorem r_lo_nd (u : RS) (x : Nat) : r_lo (rs_nd u x) = r_lo u := rfl
theorem r_lo_ob (u : RS) (x : Int32) : r_lo (rs_ob u x) = r_lo u := rfl
theorem r_lo_er (u : RS) (x : Int64) : r_lo (rs_er u x) = r_lo u := rfl
theorem r_lo_cs (u : RS) (x : Nat) : r_lo (rs_cs u x) = r_lo u := rfl
theorem r_lo_cd (u : RS) (x : Nat → Int32) : r_lo (rs_cd u x) = r_lo u := rfl
theorem r_lo_mk (u : RS) (x : Nat) : r_lo (rs_mk u x) = r_lo u := rfl
theorem r_lo_ou (u : RS) (x : Nat → Int32) : r_lo (rs_ou u x) = r_lo u := rfl
theorem r_lo_lw (u : RS) (x : Int64) : r_lo (rs_lw u x) = r_lo u := rfl
theorem r_lo_hg (u : RS) (x : Int64) : r_lo (rs_hg u x) = r_lo u := rfl
theorem r_sz_th (u : RS) (x : Int32) : r_sz (rs_th u x) = r_sz u := rfl
theorem r_sz_n (u : RS) (x : Nat) : r_sz (rs_n u x) = r_sz u := rfl
theorem r_sz_od (u : RS) (x : Nat → Int32) : r_sz (rs_od u x) = r_sz u := rfl
theorem r_sz_ra (u : RS) (x : Nat → Int32) : r_sz (rs_ra u x) = r_sz u := rfl
theorem r_sz_lo (u : RS) (x : Nat → Int32) : r_sz (rs_lo u x) = r_sz u := rfl
theorem r_sz_sz (u : RS) (x : Nat) : r_sz (rs_sz u x) = x := rfl
theorem r_sz_tx (u : RS) (x : Nat → Int32) : r_sz (rs_tx u x) = r_sz u := rfl
theorem r_sz_co (u : RS) (x : Nat → Int32) : r_sz (rs_co u x) = r_sz u := rfl
theorem r_sz_lc (u : RS) (x : Nat → Int32) : r_sz (rs_lc u x) = r_sz u := rfl
theorem r_sz_ln (u : RS) (x : Nat → Int32) : r_sz (rs_ln u x) = r_sz u := rfl
theorem r_sz_we (u : RS) (x : Nat → Int32) : r_sz (rs_we u x) = r_sz u := rfl
theorem r_sz_cl (u : RS) (x : Nat → Int32) : r_sz (rs_cl u x) = r_sz u := rfl
theorem r_sz_hi (u : RS) (x : Nat → Int32) : r_sz (rs_hi u x) = r_sz u := rfl
theorem r_sz_nd (u : RS) (x : Nat) : r_sz (rs_nd u x) = r_sz u := rfl
theorem r_sz_ob (u : RS) (x : Int32) : r_sz (rs_ob u x) = r_sz u := rfl
theorem r_sz_er (u : RS) (x : Int64) : r_sz (rs_er u x) = r_sz u := rfl
theorem r_sz_cs (u : RS) (x : Nat) : r_sz (rs_cs u x) = r_sz u := rfl
theorem r_sz_cd (u : RS) (x : Nat → Int32) : r_sz (rs_cd u x) = r_sz u := rfl
theorem r_sz_mk (u : RS) (x : Nat) : r_sz (rs_mk u x) = r_sz u := rfl
theorem r_sz_ou (u : RS) (x : Nat → Int32) : r_sz (rs_ou u x) = r_sz u := rfl
theorem r_sz_lw (u : RS) (x : Int64) : r_sz (rs_lw u x) = r_sz u := rfl
theorem r_sz_hg (u : RS) (x : Int64) : r_sz (rs_hg u x) = r_sz u := rfl
theorem r_tx_th (u : RS) (x : Int32) : r_tx (rs_th u x) = r_tx u := rfl
theorem r_tx_n (u : RS) (x : Nat) : r_tx (rs_n u x) = r_tx u := rfl
theorem r_tx_od (u : RS) (x : Nat → Int32) : r_tx (rs_od u x) = r_tx u := rfl
theorem r_tx_ra (u : RS) (x : Nat → Int32) : r_tx (rs_ra u x) = r_tx u := rfl
theorem r_tx_lo (u : RS) (x : Nat → Int32) : r_tx (rs_lo u x) = r_tx u := rfl
theorem r_tx_sz (u : RS) (x : Nat) : r_tx (rs_sz u x) = r_tx u := rfl
theorem r_tx_tx (u : RS) (x : Nat → Int32) : r_tx (rs_tx u x) = x := rfl
theorem r_tx_co (u : RS) (x : Nat → Int32) : r_tx (rs_co u x) = r_tx u := rfl
theorem r_tx_lc (u : RS) (x : Nat → Int32) : r_tx (rs_lc u x) = r_tx u := rfl
theorem r_tx_ln (u : RS) (x : Nat → Int32) : r_tx (rs_ln u x) = r_tx u := rfl
theorem r_tx_we (u : RS) (x : Nat → Int32) : r_tx (rs_we u x) = r_tx u := rfl
theorem r_tx_cl (u : RS) (x : Nat → Int32) : r_tx (rs_cl u x) = r_tx u := rfl
theorem r_tx_hi (u : RS) (x : Nat → Int32) : r_tx (rs_hi u x) = r_tx u := rfl
theorem r_tx_nd (u : RS) (x : Nat) : r_tx (rs_nd u x) = r_tx u := rfl
theorem r_tx_ob (u : RS) (x : Int32) : r_tx (rs_ob u x) = r_tx u := rfl
theorem r_tx_er (u : RS) (x : Int64) : r_tx (rs_er u x) = r_tx u := rfl
theorem r_tx_cs (u : RS) (x : Nat) : r_tx (rs_cs u x) = r_tx u := rfl
theorem r_tx_cd (u : RS) (x : Nat → Int32) : r_tx (rs_cd u x) = r_tx u := rfl
theorem r_tx_mk (u : RS) (x : Nat) : r_tx (rs_mk u x) = r_tx u := rfl
theorem r_tx_ou (u : RS) (x : Nat → Int32) : r_tx (rs_ou u x) = r_tx u := rfl
theorem r_tx_lw (u : RS) (x : Int64) : r_tx (rs_lw u x) = r_tx u := rfl
theorem r_tx_hg (u : RS) (x : Int64) : r_tx (rs_hg u x) = r_tx u := rfl
theorem r_co_th (u : RS) (x : Int32) : r_co (rs_th u x) = r_co u := rfl
theorem r_co_n (u : RS) (x : Nat) : r_co (rs_n u x) = r_co u := rfl
theorem r_co_od (u : RS) (x : Nat → Int32) : r_co (rs_od u x) = r_co u := rfl
theorem r_co_ra (u : RS) (x : Nat → Int32) : r_co (rs_ra u x) = r_co u := rfl
theorem r_co_lo (u : RS) (x : Nat → Int32) : r_co (rs_lo u x) = r_co u := rfl
theorem r_co_sz (u : RS) (x : Nat) : r_co (rs_sz u x) = r_co u := rfl
theorem r_co_tx (u : RS) (x : Nat → Int32) : r_co (rs_tx u x) = r_co u := rfl
theorem r_co_co (u : RS) (x : Nat → Int32) : r_co (rs_co u x) = x := rfl
theorem r_co_lc (u : RS) (x : Nat → Int32) : r_co (rs_lc u x) = r_co u := rfl
theorem r_co_ln (u : RS) (x : Nat → Int32) : r_co (rs_ln u x) = r_co u := rfl
theorem r_co_we (u : RS) (x : Nat → Int32) : r_co (rs_we u x) = r_co u := rfl
theorem r_co_cl (u : RS) (x : Nat → Int32) : r_co (rs_cl u x) = r_co u := rfl
theorem r_co_hi (u : RS) (x : Nat → Int32) : r_co (rs_hi u x) = r_co u := rfl
theorem r_co_nd (u : RS) (x : Nat) : r_co (rs_nd u x) = r_co u := rfl
theorem r_co_ob (u : RS) (x : Int32) : r_co (rs_ob u x) = r_co u := rfl
theorem r_co_er (u : RS) (x : Int64) : r_co (rs_er u x) = r_co u := rfl
theorem r_co_cs (u : RS) (x : Nat) : r_co (rs_cs u x) = r_co u := rfl
theorem r_co_cd (u : RS) (x : Nat → Int32) : r_co (rs_cd u x) = r_co u := rfl
theorem r_co_mk (u : RS) (x : Nat) : r_co (rs_mk u x) = r_co u := rfl
theorem r_co_ou (u : RS) (x : Nat → Int32) : r_co (rs_ou u x) = r_co u := rfl
theorem r_co_lw (u : RS) (x : Int64) : r_co (rs_lw u x) = r_co u := rfl
theorem r_co_hg (u : RS) (x : Int64) : r_co (rs_hg u x) = r_co u := rfl
theorem r_lc_th (u : RS) (x : Int32) : r_lc (rs_th u x) = r_lc u := rfl
theorem r_lc_n (u : RS) (x : Nat) : r_lc (rs_n u x) = r_lc u := rfl
theorem r_lc_od (u : RS) (x : Nat → Int32) : r_lc (rs_od u x) = r_lc u := rfl
theorem r_lc_ra (u : RS) (x : Nat → Int32) : r_lc (rs_ra u x) = r_lc u := rfl
theorem r_lc_lo (u : RS) (x : Nat → Int32) : r_lc (rs_lo u x) = r_lc u := rfl
theorem r_lc_sz (u : RS) (x : Nat) : r_lc (rs_sz u x) = r_lc u := rfl
theorem r_lc_tx (u : RS) (x : Nat → Int32) : r_lc (rs_tx u x) = r_lc u := rfl
theorem r_lc_co (u : RS) (x : Nat → Int32) : r_lc (rs_co u x) = r_lc u := rfl
theorem r_lc_lc (u : RS) (x : Nat → Int32) : r_lc (rs_lc u x) = x := rfl
theorem r_lc_ln (u : RS) (x : Nat → Int32) : r_lc (rs_ln u x) = r_lc u := rfl
theorem r_lc_we (u : RS) (x : Nat → Int32) : r_lc (rs_we u x) = r_lc u := rfl
theorem r_lc_cl (u : RS) (x : Nat → Int32) : r_lc (rs_cl u x) = r_lc u := rfl
theorem r_lc_hi (u : RS) (x : Nat → Int32) : r_lc (rs_hi u x) = r_lc u := rfl
theorem r_lc_nd (u : RS) (x : Nat) : r_lc (rs_nd u x) = r_lc u := rfl
theorem r_lc_ob (u : RS) (x : Int32) : r_lc (rs_ob u x) = r_lc u := rfl
theorem r_lc_er (u : RS) (x : Int64) : r_lc (rs_er u x) = r_lc u := rfl
theorem r_lc_cs (u : RS) (x : Nat) : r_lc (rs_cs u x) = r_lc u := rfl
theorem r_lc_cd (u : RS) (x : Nat → Int32) : r_lc (rs_cd u x) = r_lc u := rfl
theorem r_lc_mk (u : RS) (x : Nat) : r_lc (rs_mk u x) = r_lc u := rfl
theorem r_lc_ou (u : RS) (x : Nat → Int32) : r_lc (rs_ou u x) = r_lc u := rfl
theorem r_lc_lw (u : RS) (x : Int64) : r_lc (rs_lw u x) = r_lc u := rfl
theorem r_lc_hg (u : RS) (x : Int64) : r_lc (rs_hg u x) = r_lc u := rfl
theorem r_ln_th (u : RS) (x : Int32) : r_ln (rs_th u x) = r_ln u := rfl
theorem r_ln_n (u : RS) (x : Nat) : r_ln (rs_n u x) = r_ln u := rfl
theorem r_ln_od (u : RS) (x : Nat → Int32) : r_ln (rs_od u x) = r_ln u := rfl
theorem r_ln_ra (u : RS) (x : Nat → Int32) : r_ln (rs_ra u x) = r_ln u := rfl
theorem r_ln_lo (u : RS) (x : Nat → Int32) : r_ln (rs_lo u x) = r_ln u := rfl
theorem r_ln_sz (u : RS) (x : Nat) : r_ln (rs_sz u x) = r_ln u := rfl
theorem r_ln_tx (u : RS) (x : Nat → Int32) : r_ln (rs_tx u x) = r_ln u := rfl
theorem r_ln_co (u : RS) (x : Nat → Int32) : r_ln (rs_co u x) = r_ln u := rfl
theorem r_ln_lc (u : RS) (x : Nat → Int32) : r_ln (rs_lc u x) = r_ln u := rfl
theorem r_ln_ln (u : RS) (x : Nat → Int32) : r_ln (rs_ln u x) = x := rfl
theorem r_ln_we (u : RS) (x : Nat → Int32) : r_ln (rs_we u x) = r_ln u := rfl
theorem r_ln_cl (u : RS) (x : Nat → Int32) : r_ln (rs_cl u x) = r_ln u := rfl
theorem r_ln_hi (u : RS) (x : Nat → Int32) : r_ln (rs_hi u x) = r_ln u := rfl
theorem r_ln_nd (u : RS) (x : Nat) : r_ln (rs_nd u x) = r_ln u := rfl
theorem r_ln_ob (u : RS) (x : Int32) : r_ln (rs_ob u x) = r_ln u := rfl
theorem r_ln_er (u : RS) (x : Int64) : r_ln (rs_er u x) = r_ln u := rfl
theorem r_ln_cs (u : RS) (x : Nat) : r_ln (rs_cs u x) = r_ln u := rfl
theorem r_ln_cd (u : RS) (x : Nat → Int32) : r_ln (rs_cd u x) = r_ln u := rfl
theorem r_ln_mk (u : RS) (x : Nat) : r_ln (rs_mk u x) = r_ln u := rfl
theorem r_ln_ou (u : RS) (x : Nat → Int32) : r_ln (rs_ou u x) = r_ln u := rfl
theorem r_ln_lw (u : RS) (x : Int64) : r_ln (rs_lw u x) = r_ln u := rfl
theorem r_ln_hg (u : RS) (x : Int64) : r_ln (rs_hg u x) = r_ln u := rfl
theorem r_we_th (u : RS) (x : Int32) : r_we (rs_th u x) = r_we u := rfl
theorem r_we_n (u : RS) (x : Nat) : r_we (rs_n u x) = r_we u := rfl
theorem r_we_od (u : RS) (x : Nat → Int32) : r_we (rs_od u x) = r_we u := rfl
theorem r_we_ra (u : RS) (x : Nat → Int32) : r_we (rs_ra u x) = r_we u := rfl
theorem r_we_lo (u : RS) (x : Nat → Int32) : r_we (rs_lo u x) = r_we u := rfl
theorem r_we_sz (u : RS) (x : Nat) : r_we (rs_sz u x) = r_we u := rfl
theorem r_we_tx (u : RS) (x : Nat → Int32) : r_we (rs_tx u x) = r_we u := rfl
theorem r_we_co (u : RS) (x : Nat → Int32) : r_we (rs_co u x) = r_we u := rfl
theorem r_we_lc (u : RS) (x : Nat → Int32) : r_we (rs_lc u x) = r_we u := rfl
theorem r_we_ln (u : RS) (x : Nat → Int32) : r_we (rs_ln u x) = r_we u := rfl
theorem r_we_we (u : RS) (x : Nat → Int32) : r_we (rs_we u x) = x := rfl
theorem r_we_cl (u : RS) (x : Nat → Int32) : r_we (rs_cl u x) = r_we u := rfl
theorem r_we_hi (u : RS) (x : Nat → Int32) : r_we (rs_hi u x) = r_we u := rfl
theorem r_we_nd (u : RS) (x : Nat) : r_we (rs_nd u x) = r_we u := rfl
theorem r_we_ob (u : RS) (x : Int32) : r_we (rs_ob u x) = r_we u := rfl
theorem r_we_er (u : RS) (x : Int64) : r_we (rs_er u x) = r_we u := rfl
theorem r_we_cs (u : RS) (x : Nat) : r_we (rs_cs u x) = r_we u := rfl
theorem r_we_cd (u : RS) (x : Nat → Int32) : r_we (rs_cd u x) = r_we u := rfl
theorem r_we_mk (u : RS) (x : Nat) : r_we (rs_mk u x) = r_we u := rfl
theorem r_we_ou (u : RS) (x : Nat → Int32) : r_we (rs_ou u x) = r_we u := rfl
theorem r_we_lw (u : RS) (x : Int64) : r_we (rs_lw u x) = r_we u := rfl
theorem r_we_hg (u : RS) (x : Int64) : r_we (rs_hg u x) = r_we u := rfl
theorem r_cl_th (u : RS) (x : Int32) : r_cl (rs_th u x) = r_cl u := rfl
theorem r_cl_n (u : RS) (x : Nat) : r_cl (rs_n u x) = r_cl u := rfl
theorem r_cl_od (u : RS) (x : Nat → Int32) : r_cl (rs_od u x) = r_cl u := rfl
theorem r_cl_ra (u : RS) (x : Nat → Int32) : r_cl (rs_ra u x) = r_cl u := rfl
theorem r_cl_lo (u : RS) (x : Nat → Int32) : r_cl (rs_lo u x) = r_cl u := rfl
theorem r_cl_sz (u : RS) (x : Nat) : r_cl (rs_sz u x) = r_cl u := rfl
theorem r_cl_tx (u : RS) (x : Nat → Int32) : r_cl (rs_tx u x) = r_cl u := rfl
theorem r_cl_co (u : RS) (x : Nat → Int32) : r_cl (rs_co u x) = r_cl u := rfl
theorem r_cl_lc (u : RS) (x : Nat → Int32) : r_cl (rs_lc u x) = r_cl u := rfl
theorem r_cl_ln (u : RS) (x : Nat → Int32) : r_cl (rs_ln u x) = r_cl u := rfl
theorem r_cl_we (u : RS) (x : Nat → Int32) : r_cl (rs_we u x) = r_cl u := rfl
theorem r_cl_cl (u : RS) (x : Nat → Int32) : r_cl (rs_cl u x) = x := rfl
theorem r_cl_hi (u : RS) (x : Nat → Int32) : r_cl (rs_hi u x) = r_cl u := rfl
theorem r_cl_nd (u : RS) (x : Nat) : r_cl (rs_nd u x) = r_cl u := rfl
theorem r_cl_ob (u : RS) (x : Int32) : r_cl (rs_ob u x) = r_cl u := rfl
theorem r_cl_er (u : RS) (x : Int64) : r_cl (rs_er u x) = r_cl u := rfl
theorem r_cl_cs (u : RS) (x : Nat) : r_cl (rs_cs u x) = r_cl u := rfl
theorem r_cl_cd (u : RS) (x : Nat → Int32) : r_cl (rs_cd u x) = r_cl u := rfl
theorem r_cl_mk (u : RS) (x : Nat) : r_cl (rs_mk u x) = r_cl u := rfl
theorem r_cl_ou (u : RS) (x : Nat → Int32) : r_cl (rs_ou u x) = r_cl u := rfl
theorem r_cl_lw (u : RS) (x : Int64) : r_cl (rs_lw u x) = r_cl u := rfl
theorem r_cl_hg (u : RS) (x : Int64) : r_cl (rs_hg u x) = r_cl u := rfl
theorem r_hi_th (u : RS) (x : Int32) : r_hi (rs_th u x) = r_hi u := rfl
theorem r_hi_n (u : RS) (x : Nat) : r_hi (rs_n u x) = r_hi u := rfl
theorem r_hi_od (u : RS) (x : Nat → Int32) : r_hi (rs_od u x) = r_hi u := rfl
theorem r_hi_ra (u : RS) (x : Nat → Int32) : r_hi (rs_ra u x) = r_hi u := rfl
theorem r_hi_lo (u : RS) (x : Nat → Int32) : r_hi (rs_lo u x) = r_hi u := rfl
theorem r_hi_sz (u : RS) (x : Nat) : r_hi (rs_sz u x) = r_hi u := rfl
theorem r_hi_tx (u : RS) (x : Nat → Int32) : r_hi (rs_tx u x) = r_hi u := rfl
theorem r_hi_co (u : RS) (x : Nat → Int32) : r_hi (rs_co u x) = r_hi u := rfl
theorem r_hi_lc (u : RS) (x : Nat → Int32) : r_hi (rs_lc u x) = r_hi u := rfl
theorem r_hi_ln (u : RS) (x : Nat → Int32) : r_hi (rs_ln u x) = r_hi u := rfl
theorem r_hi_we (u : RS) (x : Nat → Int32) : r_hi (rs_we u x) = r_hi u := rfl
theorem r_hi_cl (u : RS) (x : Nat → Int32) : r_hi (rs_cl u x) = r_hi u := rfl
theorem r_hi_hi (u : RS) (x : Nat → Int32) : r_hi (rs_hi u x) = x := rfl
theorem r_hi_nd (u : RS) (x : Nat) : r_hi (rs_nd u x) = r_hi u := rfl
theorem r_hi_ob (u : RS) (x : Int32) : r_hi (rs_ob u x) = r_hi u := rfl
theorem r_hi_er (u : RS) (x : Int64) : r_hi (rs_er u x) = r_hi u := rfl
theorem r_hi_cs (u : RS) (x : Nat) : r_hi (rs_cs u x) = r_hi u := rfl
theorem r_hi_cd (u : RS) (x : Nat → Int32) : r_hi (rs_cd u x) = r_hi u := rfl
theorem r_hi_mk (u : RS) (x : Nat) : r_hi (rs_mk u x) = r_hi u := rfl
theorem r_hi_ou (u : RS) (x : Nat → Int32) : r_hi (rs_ou u x) = r_hi u := rfl
theorem r_hi_lw (u : RS) (x : Int64) : r_hi (rs_lw u x) = r_hi u := rfl
theorem r_hi_hg (u : RS) (x : Int64) : r_hi (rs_hg u x) = r_hi u := rfl
theorem r_nd_th (u : RS) (x : Int32) : r_nd (rs_th u x) = r_nd u := rfl
theorem r_nd_n (u : RS) (x : Nat) : r_nd (rs_n u x) = r_nd u := rfl
theorem r_nd_od (u : RS) (x : Nat → Int32) : r_nd (rs_od u x) = r_nd u := rfl
theorem r_nd_ra (u : RS) (x : Nat → Int32) : r_nd (rs_ra u x) = r_nd u := rfl
theorem r_nd_lo (u : RS) (x : Nat → Int32) : r_nd (rs_lo u x) = r_nd u := rfl
theorem r_nd_sz (u : RS) (x : Nat) : r_nd (rs_sz u x) = r_nd u := rfl
theorem r_nd_tx (u : RS) (x : Nat → Int32) : r_nd (rs_tx u x) = r_nd u := rfl
theorem r_nd_co (u : RS) (x : Nat → Int32) : r_nd (rs_co u x) = r_nd u := rfl
theorem r_nd_lc (u : RS) (x : Nat → Int32) : r_nd (rs_lc u x) = r_nd u := rfl
theorem r_nd_ln (u : RS) (x : Nat → Int32) : r_nd (rs_ln u x) = r_nd u := rfl
theorem r_nd_we (u : RS) (x : Nat → Int32) : r_nd (rs_we u x) = r_nd u := rfl
theorem r_nd_cl (u : RS) (x : Nat → Int32) : r_nd (rs_cl u x) = r_nd u := rfl
theorem r_nd_hi (u : RS) (x : Nat → Int32) : r_nd (rs_hi u x) = r_nd u := rfl
theorem r_nd_nd (u : RS) (x : Nat) : r_nd (rs_nd u x) = x := rfl
theorem r_nd_ob (u : RS) (x : Int32) : r_nd (rs_ob u x) = r_nd u := rfl
theorem r_nd_er (u : RS) (x : Int64) : r_nd (rs_er u x) = r_nd u := rfl
theorem r_nd_cs (u : RS) (x : Nat) : r_nd (rs_cs u x) = r_nd u := rfl
theorem r_nd_cd (u : RS) (x : Nat → Int32) : r_nd (rs_cd u x) = r_nd u := rfl
theorem r_nd_mk (u : RS) (x : Nat) : r_nd (rs_mk u x) = r_nd u := rfl
theorem r_nd_ou (u : RS) (x : Nat → Int32) : r_nd (rs_ou u x) = r_nd u := rfl
theorem r_nd_lw (u : RS) (x : Int64) : r_nd (rs_lw u x) = r_nd u := rfl
theorem r_nd_hg (u : RS) (x : Int64) : r_nd (rs_hg u x) = r_nd u := rfl
theorem r_ob_th (u : RS) (x : Int32) : r_ob (rs_th u x) = r_ob u := rfl
theorem r_ob_n (u : RS) (x : Nat) : r_ob (rs_n u x) = r_ob u := rfl
theorem r_ob_od (u : RS) (x : Nat → Int32) : r_ob (rs_od u x) = r_ob u := rfl
theorem r_ob_ra (u : RS) (x : Nat → Int32) : r_ob (rs_ra u x) = r_ob u := rfl
theorem r_ob_lo (u : RS) (x : Nat → Int32) : r_ob (rs_lo u x) = r_ob u := rfl
theorem r_ob_sz (u : RS) (x : Nat) : r_ob (rs_sz u x) = r_ob u := rfl
theorem r_ob_tx (u : RS) (x : Nat → Int32) : r_ob (rs_tx u x) = r_ob u := rfl
theorem r_ob_co (u : RS) (x : Nat → Int32) : r_ob (rs_co u x) = r_ob u := rfl
theorem r_ob_lc (u : RS) (x : Nat → Int32) : r_ob (rs_lc u x) = r_ob u := rfl
theorem r_ob_ln (u : RS) (x : Nat → Int32) : r_ob (rs_ln u x) = r_ob u := rfl
theorem r_ob_we (u : RS) (x : Nat → Int32) : r_ob (rs_we u x) = r_ob u := rfl
theorem r_ob_cl (u : RS) (x : Nat → Int32) : r_ob (rs_cl u x) = r_ob u := rfl
theorem r_ob_hi (u : RS) (x : Nat → Int32) : r_ob (rs_hi u x) = r_ob u := rfl
theorem r_ob_nd (u : RS) (x : Nat) : r_ob (rs_nd u x) = r_ob u := rfl
theorem r_ob_ob (u : RS) (x : Int32) : r_ob (rs_ob u x) = x := rfl
theorem r_ob_er (u : RS) (x : Int64) : r_ob (rs_er u x) = r_ob u := rfl
theorem r_ob_cs (u : RS) (x : Nat) : r_ob (rs_cs u x) = r_ob u := rfl
theorem r_ob_cd (u : RS) (x : Nat → Int32) : r_ob (rs_cd u x) = r_ob u := rfl
theorem r_ob_mk (u : RS) (x : Nat) : r_ob (rs_mk u x) = r_ob u := rfl
theorem r_ob_ou (u : RS) (x : Nat → Int32) : r_ob (rs_ou u x) = r_ob u := rfl
theorem r_ob_lw (u : RS) (x : Int64) : r_ob (rs_lw u x) = r_ob u := rfl
theorem r_ob_hg (u : RS) (x : Int64) : r_ob (rs_hg u x) = r_ob u := rfl
theorem r_er_th (u : RS) (x : Int32) : r_er (rs_th u x) = r_er u := rfl
theorem r_er_n (u : RS) (x : Nat) : r_er (rs_n u x) = r_er u := rfl
theorem r_er_od (u : RS) (x : Nat → Int32) : r_er (rs_od u x) = r_er u := rfl
theorem r_er_ra (u : RS) (x : Nat → Int32) : r_er (rs_ra u x) = r_er u := rfl
theorem r_er_lo (u : RS) (x : Nat → Int32) : r_er (rs_lo u x) = r_er u := rfl
theorem r_er_sz (u : RS) (x : Nat) : r_er (rs_sz u x) = r_er u := rfl
theorem r_er_tx (u : RS) (x : Nat → Int32) : r_er (rs_tx u x) = r_er u := rfl
theorem r_er_co (u : RS) (x : Nat → Int32) : r_er (rs_co u x) = r_er u := rfl
theorem r_er_lc (u : RS) (x : Nat → Int32) : r_er (rs_lc u x) = r_er u := rfl
theorem r_er_ln (u : RS) (x : Nat → Int32) : r_er (rs_ln u x) = r_er u := rfl
theorem r_er_we (u : RS) (x : Nat → Int32) : r_er (rs_we u x) = r_er u := rfl
theorem r_er_cl (u : RS) (x : Nat → Int32) : r_er (rs_cl u x) = r_er u := rfl
theorem r_er_hi (u : RS) (x : Nat → Int32) : r_er (rs_hi u x) = r_er u := rfl
theorem r_er_nd (u : RS) (x : Nat) : r_er (rs_nd u x) = r_er u := rfl
theorem r_er_ob (u : RS) (x : Int32) : r_er (rs_ob u x) = r_er u := rfl
theorem r_er_er (u : RS) (x : Int64) : r_er (rs_er u x) = x := rfl
theorem r_er_cs (u : RS) (x : Nat) : r_er (rs_cs u x) = r_er u := rfl
theorem r_er_cd (u : RS) (x : Nat → Int32) : r_er (rs_cd u x) = r_er u := rfl
theorem r_er_mk (u : RS) (x : Nat) : r_er (rs_mk u x) = r_er u := rfl
theorem r_er_ou (u : RS) (x : Nat → Int32) : r_er (rs_ou u x) = r_er u := rfl
theorem r_er_lw (u : RS) (x : Int64) : r_er (rs_lw u x) = r_er u := rfl
theorem r_er_hg (u : RS) (x : Int64) : r_er (rs_hg u x) = r_er u := rfl
theorem r_cs_th (u : RS) (x : Int32) : r_cs (rs_th u x) = r_cs u := rfl
theorem r_cs_n (u : RS) (x : Nat) : r_cs (rs_n u x) = r_cs u := rfl
theorem r_cs_od (u : RS) (x : Nat → Int32) : r_cs (rs_od u x) = r_cs u := rfl
theorem r_cs_ra (u : RS) (x : Nat → Int32) : r_cs (rs_ra u x) = r_cs u := rfl
theorem r_cs_lo (u : RS) (x : Nat → Int32) : r_cs (rs_lo u x) = r_cs u := rfl
theorem r_cs_sz (u : RS) (x : Nat) : r_cs (rs_sz u x) = r_cs u := rfl
theorem r_cs_tx (u : RS) (x : Nat → Int32) : r_cs (rs_tx u x) = r_cs u := rfl
theorem r_cs_co (u : RS) (x : Nat → Int32) : r_cs (rs_co u x) = r_cs u := rfl
theorem r_cs_lc (u : RS) (x : Nat → Int32) : r_cs (rs_lc u x) = r_cs u := rfl
theorem r_cs_ln (u : RS) (x : Nat → Int32) : r_cs (rs_ln u x) = r_cs u := rfl
theorem r_cs_we (u : RS) (x : Nat → Int32) : r_cs (rs_we u x) = r_cs u := rfl
theorem r_cs_cl (u : RS) (x : Nat → Int32) : r_cs (rs_cl u x) = r_cs u := rfl
theorem r_cs_hi (u : RS) (x : Nat → Int32) : r_cs (rs_hi u x) = r_cs u := rfl
theorem r_cs_nd (u : RS) (x : Nat) : r_cs (rs_nd u x) = r_cs u := rfl
theorem r_cs_ob (u : RS) (x : Int32) : r_cs (rs_ob u x) = r_cs u := rfl
theorem r_cs_er (u : RS) (x : Int64) : r_cs (rs_er u x) = r_cs u := rfl
theorem r_cs_cs (u : RS) (x : Nat) : r_cs (rs_cs u x) = x := rfl
theorem r_cs_cd (u : RS) (x : Nat → Int32) : r_cs (rs_cd u x) = r_cs u := rfl
theorem r_cs_mk (u : RS) (x : Nat) : r_cs (rs_mk u x) = r_cs u := rfl
theorem r_cs_ou (u : RS) (x : Nat → Int32) : r_cs (rs_ou u x) = r_cs u := rfl
theorem r_cs_lw (u : RS) (x : Int64) : r_cs (rs_lw u x) = r_cs u := rfl
theorem r_cs_hg (u : RS) (x : Int64) : r_cs (rs_hg u x) = r_cs u := rfl
theorem r_cd_th (u : RS) (x : Int32) : r_cd (rs_th u x) = r_cd u := rfl
theorem r_cd_n (u : RS) (x : Nat) : r_cd (rs_n u x) = r_cd u := rfl
theorem r_cd_od (u : RS) (x : Nat → Int32) : r_cd (rs_od u x) = r_cd u := rfl
theorem r_cd_ra (u : RS) (x : Nat → Int32) : r_cd (rs_ra u x) = r_cd u := rfl
theorem r_cd_lo (u : RS) (x : Nat → Int32) : r_cd (rs_lo u x) = r_cd u := rfl
theorem r_cd_sz (u : RS) (x : Nat) : r_cd (rs_sz u x) = r_cd u := rfl
theorem r_cd_tx (u : RS) (x : Nat → Int32) : r_cd (rs_tx u x) = r_cd u := rfl
theorem r_cd_co (u : RS) (x : Nat → Int32) : r_cd (rs_co u x) = r_cd u := rfl
theorem r_cd_lc (u : RS) (x : Nat → Int32) : r_cd (rs_lc u x) = r_cd u := rfl
theorem r_cd_ln (u : RS) (x : Nat → Int32) : r_cd (rs_ln u x) = r_cd u := rfl
theorem r_cd_we (u : RS) (x : Nat → Int32) : r_cd (rs_we u x) = r_cd u := rfl
theorem r_cd_cl (u : RS) (x : Nat → Int32) : r_cd (rs_cl u x) = r_cd u := rfl
theorem r_cd_hi (u : RS) (x : Nat → Int32) : r_cd (rs_hi u x) = r_cd u := rfl
theorem r_cd_nd (u : RS) (x : Nat) : r_cd (rs_nd u x) = r_cd u := rfl
theorem r_cd_ob (u : RS) (x : Int32) : r_cd (rs_ob u x) = r_cd u := rfl
theorem r_cd_er (u : RS) (x : Int64) : r_cd (rs_er u x) = r_cd u := rfl
theorem r_cd_cs (u : RS) (x : Nat) : r_cd (rs_cs u x) = r_cd u := rfl
theorem r_cd_cd (u : RS) (x : Nat → Int32) : r_cd (rs_cd u x) = x := rfl
theorem r_cd_mk (u : RS) (x : Nat) : r_cd (rs_mk u x) = r_cd u := rfl
theorem r_cd_ou (u : RS) (x : Nat → Int32) : r_cd (rs_ou u x) = r_cd u := rfl
theorem r_cd_lw (u : RS) (x : Int64) : r_cd (rs_lw u x) = r_cd u := rfl
theorem r_cd_hg (u : RS) (x : Int64) : r_cd (rs_hg u x) = r_cd u := rfl
theorem r_mk_th (u : RS) (x : Int32) : r_mk (rs_th u x) = r_mk u := rfl
theorem r_mk_n (u : RS) (x : Nat) : r_mk (rs_n u x) = r_mk u := rfl
theorem r_mk_od (u : RS) (x : Nat → Int32) : r_mk (rs_od u x) = r_mk u := rfl
theorem r_mk_ra (u : RS) (x : Nat → Int32) : r_mk (rs_ra u x) = r_mk u := rfl
theorem r_mk_lo (u : RS) (x : Nat → Int32) : r_mk (rs_lo u x) = r_mk u := rfl
theorem r_mk_sz (u : RS) (x : Nat) : r_mk (rs_sz u x) = r_mk u := rfl
theorem r_mk_tx (u : RS) (x : Nat → Int32) : r_mk (rs_tx u x) = r_mk u := rfl
theorem r_mk_co (u : RS) (x : Nat → Int32) : r_mk (rs_co u x) = r_mk u := rfl
theorem r_mk_lc (u : RS) (x : Nat → Int32) : r_mk (rs_lc u x) = r_mk u := rfl
theorem r_mk_ln (u : RS) (x : Nat → Int32) : r_mk (rs_ln u x) = r_mk u := rfl
theorem r_mk_we (u : RS) (x : Nat → Int32) : r_mk (rs_we u x) = r_mk u := rfl
theorem r_mk_cl (u : RS) (x : Nat → Int32) : r_mk (rs_cl u x) = r_mk u := rfl
theorem r_mk_hi (u : RS) (x : Nat → Int32) : r_mk (rs_hi u x) = r_mk u := rfl
theorem r_mk_nd (u : RS) (x : Nat) : r_mk (rs_nd u x) = r_mk u := rfl
theorem r_mk_ob (u : RS) (x : Int32) : r_mk (rs_ob u x) = r_mk u := rfl
theorem r_mk_er (u : RS) (x : Int64) : r_mk (rs_er u x) = r_mk u := rfl
theorem r_mk_cs (u : RS) (x : Nat) : r_mk (rs_cs u x) = r_mk u := rfl
theorem r_mk_cd (u : RS) (x : Nat → Int32) : r_mk (rs_cd u x) = r_mk u := rfl
theorem r_mk_mk (u : RS) (x : Nat) : r_mk (rs_mk u x) = x := rfl
theorem r_mk_ou (u : RS) (x : Nat → Int32) : r_mk (rs_ou u x) = r_mk u := rfl
theorem r_mk_lw (u : RS) (x : Int64) : r_mk (rs_lw u x) = r_mk u := rfl
theorem r_mk_hg (u : RS) (x : Int64) : r_mk (rs_hg u x) = r_mk u := rfl
theorem r_ou_th (u : RS) (x : Int32) : r_ou (rs_th u x) = r_ou u := rfl
theorem r_ou_n (u : RS) (x : Nat) : r_ou (rs_n u x) = r_ou u := rfl
theorem r_ou_od (u : RS) (x : Nat → Int32) : r_ou (rs_od u x) = r_ou u := rfl
theorem r_ou_ra (u : RS) (x : Nat → Int32) : r_ou (rs_ra u x) = r_ou u := rfl
theorem r_ou_lo (u : RS) (x : Nat → Int32) : r_ou (rs_lo u x) = r_ou u := rfl
theorem r_ou_sz (u : RS) (x : Nat) : r_ou (rs_sz u x) = r_ou u := rfl
theorem r_ou_tx (u : RS) (x : Nat → Int32) : r_ou (rs_tx u x) = r_ou u := rfl
theorem r_ou_co (u : RS) (x : Nat → Int32) : r_ou (rs_co u x) = r_ou u := rfl
theorem r_ou_lc (u : RS) (x : Nat → Int32) : r_ou (rs_lc u x) = r_ou u := rfl
theorem r_ou_ln (u : RS) (x : Nat → Int32) : r_ou (rs_ln u x) = r_ou u := rfl
theorem r_ou_we (u : RS) (x : Nat → Int32) : r_ou (rs_we u x) = r_ou u := rfl
theorem r_ou_cl (u : RS) (x : Nat → Int32) : r_ou (rs_cl u x) = r_ou u := rfl
theorem r_ou_hi (u : RS) (x : Nat → Int32) : r_ou (rs_hi u x) = r_ou u := rfl
theorem r_ou_nd (u : RS) (x : Nat) : r_ou (rs_nd u x) = r_ou u := rfl
theorem r_ou_ob (u : RS) (x : Int32) : r_ou (rs_ob u x) = r_ou u := rfl
theorem r_ou_er (u : RS) (x : Int64) : r_ou (rs_er u x) = r_ou u := rfl
theorem r_ou_cs (u : RS) (x : Nat) : r_ou (rs_cs u x) = r_ou u := rfl
theorem r_ou_cd (u : RS) (x : Nat → Int32) : r_ou (rs_cd u x) = r_ou u := rfl
theorem r_ou_mk (u : RS) (x : Nat) : r_ou (rs_mk u x) = r_ou u := rfl
theorem r_ou_ou (u : RS) (x : Nat → Int32) : r_ou (rs_ou u x) = x := rfl
theorem r_ou_lw (u : RS) (x : Int64) : r_ou (rs_lw u x) = r_ou u := rfl
theorem r_ou_hg (u : RS) (x : Int64) : r_ou (rs_hg u x) = r_ou u := rfl
theorem r_lw_th (u : RS) (x : Int32) : r_lw (rs_th u x) = r_lw u := rfl
theorem r_lw_n (u : RS) (x : Nat) : r_lw (rs_n u x) = r_lw u := rfl
theorem r_lw_od (u : RS) (x : Nat → Int32) : r_lw (rs_od u x) = r_lw u := rfl
theorem r_lw_ra (u : RS) (x : Nat → Int32) : r_lw (rs_ra u x) = r_lw u := rfl
theorem r_lw_lo (u : RS) (x : Nat → Int32) : r_lw (rs_lo u x) = r_lw u := rfl
theorem r_lw_sz (u : RS) (x : Nat) : r_lw (rs_sz u x) = r_lw u := rfl
theorem r_lw_tx (u : RS) (x : Nat → Int32) : r_lw (rs_tx u x) = r_lw u := rfl
theorem r_lw_co (u : RS) (x : Nat → Int32) : r_lw (rs_co u x) = r_lw u := rfl
theorem r_lw_lc (u : RS) (x : Nat → Int32) : r_lw (rs_lc u x) = r_lw u := rfl
theorem r_lw_ln (u : RS) (x : Nat → Int32) : r_lw (rs_ln u x) = r_lw u := rfl
theorem r_lw_we (u : RS) (x : Nat → Int32) : r_lw (rs_we u x) = r_lw u := rfl
theorem r_lw_cl (u : RS) (x : Nat → Int32) : r_lw (rs_cl u x) = r_lw u := rfl
theorem r_lw_hi (u : RS) (x : Nat → Int32) : r_lw (rs_hi u x) = r_lw u := rfl
theorem r_lw_nd (u : RS) (x : Nat) : r_lw (rs_nd u x) = r_lw u := rfl
theorem r_lw_ob (u : RS) (x : Int32) : r_lw (rs_ob u x) = r_lw u := rfl
theorem r_lw_er (u : RS) (x : Int64) : r_lw (rs_er u x) = r_lw u := rfl
theorem r_lw_cs (u : RS) (x : Nat) : r_lw (rs_cs u x) = r_lw u := rfl
theorem r_lw_cd (u : RS) (x : Nat → Int32) : r_lw (rs_cd u x) = r_lw u := rfl
theorem r_lw_mk (u : RS) (x : Nat) : r_lw (rs_mk u x) = r_lw u := rfl
theorem r_lw_ou (u : RS) (x : Nat → Int32) : r_lw (rs_ou u x) = r_lw u := rfl
theorem r_lw_lw (u : RS) (x : Int64) : r_lw (rs_lw u x) = x := rfl
theorem r_lw_hg (u : RS) (x : Int64) : r_lw (rs_hg u x) = r_lw u := rfl
theorem r_hg_th (u : RS) (x : Int32) : r_hg (rs_th u x) = r_hg u := rfl
theorem r_hg_n (u : RS) (x : Nat) : r_hg (rs_n u x) = r_hg u := rfl
theorem r_hg_od (u : RS) (x : Nat → Int32) : r_hg (rs_od u x) = r_hg u := rfl
theorem r_hg_ra (u : RS) (x : Nat → Int32) : r_hg (rs_ra u x) = r_hg u := rfl
theorem r_hg_lo (u : RS) (x : Nat → Int32) : r_hg (rs_lo u x) = r_hg u := rfl
theorem r_hg_sz (u : RS) (x : Nat) : r_hg (rs_sz u x) = r_hg u := rfl
theorem r_hg_tx (u : RS) (x : Nat → Int32) : r_hg (rs_tx u x) = r_hg u := rfl
theorem r_hg_co (u : RS) (x : Nat → Int32) : r_hg (rs_co u x) = r_hg u := rfl
theorem r_hg_lc (u : RS) (x : Nat → Int32) : r_hg (rs_lc u x) = r_hg u := rfl
theorem r_hg_ln (u : RS) (x : Nat → Int32) : r_hg (rs_ln u x) = r_hg u := rfl
theorem r_hg_we (u : RS) (x : Nat → Int32) : r_hg (rs_we u x) = r_hg u := rfl
theorem r_hg_cl (u : RS) (x : Nat → Int32) : r_hg (rs_cl u x) = r_hg u := rfl
theorem r_hg_hi (u : RS) (x : Nat → Int32) : r_hg (rs_hi u x) = r_hg u := rfl
theorem r_hg_nd (u : RS) (x : Nat) : r_hg (rs_nd u x) = r_hg u := rfl
theorem r_hg_ob (u : RS) (x : Int32) : r_hg (rs_ob u x) = r_hg u := rfl
theorem r_hg_er (u : RS) (x : Int64) : r_hg (rs_er u x) = r_hg u := rfl
theorem r_hg_cs (u : RS) (x : Nat) : r_hg (rs_cs u x) = r_hg u := rfl
theorem r_hg_cd (u : RS) (x : Nat → Int32) : r_hg (rs_cd u x) = r_hg u := rfl
theorem r_hg_mk (u : RS) (x : Nat) : r_hg (rs_mk u x) = r_hg u := rfl
theorem r_hg_ou (u : RS) (x : Nat → Int32) : r_hg (rs_ou u x) = r_hg u := rfl
theorem r_hg_lw (u : RS) (x : Int64) : r_hg (rs_lw u x) = r_hg u := rfl
theorem r_hg_hg (u : RS) (x : Int64) : r_hg (rs_hg u x) = x := rfl
def rowW (cI : ClassId) (h0 h1 lim : Nat) (r : Row) : va_W := [(h0, .inr (0, [.ref h1, .int (nI (q_c r))])), (h1, .inl (cI, lim, .inl (q_f r)))]
def ivW (h0 : Nat) (v : Iv) : va_W := [(h0, .inr (1, [.long (v_lo v), .long (v_hi v), .long (v_x v), .int (v_nx v)]))]
def moW (cI cL : ClassId) (h0 h1 h2 h3 : Nat) (o : Mo) : va_W := [(h0, .inr (2, [.int (o_od o), .int (o_rt o), .int (o_t o), .ref h1, .ref h2, .ref h3, .int (o_cn o), .int (o_cx o), .long (o_si o), .int (o_pl o)])), (h1, .inl (cI, 512, .inl (o_co o))), (h2, .inl (cL, 512, .inr (.inl (o_se o)))), (h3, .inl (cI, 8, .inl (o_we o)))]
/-- where model j lies -/
abbrev adM (a : Nat → Nat) (j : Nat) : Nat := a (11 + 4 * j)
def prW (cI cL cM : ClassId) (a : Nat → Nat) (k : Pr) : va_W := [(a 7, .inr (3, [.ref (a 8), .int (nI (k_n k)), .ref (a 9), .int (nI (k_nd k)), .int (k_ph k), .int (k_bt k), .long (k_er k)])), (a 8, .inl (cM, 6, .inr (.inr (.inr (.inr (fun j => some (a (11 + 4 * j)))))))), (a 9, .inl (cI, 3, .inl (k_la k)))] ++ (moW cI cL (a 11) (a 12) (a 13) (a 14) (k_mo k 0) ++ (moW cI cL (a 15) (a 16) (a 17) (a 18) (k_mo k 1) ++ (moW cI cL (a 19) (a 20) (a 21) (a 22) (k_mo k 2) ++ (moW cI cL (a 23) (a 24) (a 25) (a 26) (k_mo k 3) ++ (moW cI cL (a 27) (a 28) (a 29) (a 30) (k_mo k 4) ++ moW cI cL (a 31) (a 32) (a 33) (a 34) (k_mo k 5))))))
def mxW (cI cL cM : ClassId) (a : Nat → Nat) (x : Mx) : va_W := [(a 0, .inr (4, [.ref (a 1), .ref (a 3), .ref (a 5), .ref (a 7), .ref (a 10)]))] ++ (rowW cI (a 1) (a 2) 80 (x_tx x) ++ (rowW cI (a 3) (a 4) 2564 (x_en x) ++ (rowW cI (a 5) (a 6) 80 (x_de x) ++ (prW cI cL cM a (x_pr x) ++ ivW (a 10) (x_iv x)))))
def rfW (cI : ClassId) (b : Nat → Nat) (u : RS) : va_W := [(b 0, .inr (5, [.int (r_th u), .int (nI (r_n u)), .ref (b 1), .ref (b 2), .ref (b 3), .int (nI (r_sz u)), .ref (b 4), .ref (b 5), .ref (b 6), .ref (b 7), .ref (b 8), .ref (b 9), .ref (b 10), .int (nI (r_nd u)), .int (r_ob u), .long (r_er u), .int (nI (r_cs u)), .ref (b 11), .int (nI (r_mk u)), .ref (b 12), .long (r_lw u), .long (r_hg u)])), (b 1, .inl (cI, 6, .inl (r_od u))), (b 2, .inl (cI, 6, .inl (r_ra u))), (b 3, .inl (cI, 6, .inl (r_lo u))), (b 4, .inl (cI, 80, .inl (r_tx u))), (b 5, .inl (cI, 3072, .inl (r_co u))), (b 6, .inl (cI, 3072, .inl (r_lc u))), (b 7, .inl (cI, 3072, .inl (r_ln u))), (b 8, .inl (cI, 48, .inl (r_we u))), (b 9, .inl (cI, 6, .inl (r_cl u))), (b 10, .inl (cI, 3, .inl (r_hi u))), (b 11, .inl (cI, 3000, .inl (r_cd u))), (b 12, .inl (cI, 80, .inl (r_ou u)))]
theorem tI0 : (0 : Int32).toInt = 0 := by decide
theorem tI1 : (1 : Int32).toInt = 1 := by decide
theorem tI2 : (2 : Int32).toInt = 2 := by decide
theorem tI3 : (3 : Int32).toInt = 3 := by decide
theorem tI4 : (4 : Int32).toInt = 4 := by decide
theorem tI6 : (6 : Int32).toInt = 6 := by decide
theorem tI7 : (7 : Int32).toInt = 7 := by decide
theorem tI8 : (8 : Int32).toInt = 8 := by decide
theorem tI16 : (16 : Int32).toInt = 16 := by decide
theorem tI24 : (24 : Int32).toInt = 24 := by decide
theorem tI31 : (31 : Int32).toInt = 31 := by decide
theorem tI80 : (80 : Int32).toInt = 80 := by decide
theorem tI255 : (255 : Int32).toInt = 255 := by decide
theorem tI256 : (256 : Int32).toInt = 256 := by decide
theorem tI257 : (257 : Int32).toInt = 257 := by decide
theorem tI512 : (512 : Int32).toInt = 512 := by decide
theorem tI2048 : (2048 : Int32).toInt = 2048 := by decide
theorem tI2564 : (2564 : Int32).toInt = 2564 := by decide
theorem tI3000 : (3000 : Int32).toInt = 3000 := by decide
theorem tI4095 : (4095 : Int32).toInt = 4095 := by decide
theorem tI4096 : (4096 : Int32).toInt = 4096 := by decide
theorem tI60000 : (60000 : Int32).toInt = 60000 := by decide
theorem tIm1 : (-1 : Int32).toInt = -1 := by decide
theorem vin {k : Int32} {n : Nat} (h0 : 0 ≤ k.toInt) (h1 : k.toInt < n) : vp_in k n := vp_in_iff.mpr ⟨h0, h1⟩
theorem nIT {n N : Nat} (h : n ≤ N) (hN : N < 2147483648) : (nI n).toInt = (n : Int) := nI_toInt (Nat.lt_of_le_of_lt h hN)
