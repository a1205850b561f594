/-! THE STATES: what was told and found (ST, common to class and reference), the class's own rows (QS), the reference's own rows (TS); the heap of both -/
abbrev ST : Type := Nat × Nat × Nat × Nat × Nat × Int × (Nat → Int) × (Nat → Nat) × (Nat → Nat) × (Nat → Nat) × (Nat → Nat) × (Nat → Int) × (Nat → Int) × (Nat → Nat) × (Nat → Nat → Int) × (Nat → Nat) × (Nat → Nat) × (Nat → Int) × Option Nat × Nat × Bool
abbrev x_ny (A : ST) : Nat := A.1
abbrev x_nt (A : ST) : Nat := A.2.1
abbrev x_nc (A : ST) : Nat := A.2.2.1
abbrev x_mu (A : ST) : Nat := A.2.2.2.1
abbrev x_nj (A : ST) : Nat := A.2.2.2.2.1
abbrev x_fa (A : ST) : Int := A.2.2.2.2.2.1
abbrev x_bu (A : ST) : Nat → Int := A.2.2.2.2.2.2.1
abbrev x_pl (A : ST) : Nat → Nat := A.2.2.2.2.2.2.2.1
abbrev x_di (A : ST) : Nat → Nat := A.2.2.2.2.2.2.2.2.1
abbrev x_th (A : ST) : Nat → Nat := A.2.2.2.2.2.2.2.2.2.1
abbrev x_yr (A : ST) : Nat → Nat := A.2.2.2.2.2.2.2.2.2.2.1
abbrev x_co (A : ST) : Nat → Int := A.2.2.2.2.2.2.2.2.2.2.2.1
abbrev x_wo (A : ST) : Nat → Int := A.2.2.2.2.2.2.2.2.2.2.2.2.1
abbrev x_jt (A : ST) : Nat → Nat := A.2.2.2.2.2.2.2.2.2.2.2.2.2.1
abbrev x_sv (A : ST) : Nat → Nat → Int := A.2.2.2.2.2.2.2.2.2.2.2.2.2.2.1
abbrev x_ja (A : ST) : Nat → Nat := A.2.2.2.2.2.2.2.2.2.2.2.2.2.2.2.1
abbrev x_jb (A : ST) : Nat → Nat := A.2.2.2.2.2.2.2.2.2.2.2.2.2.2.2.2.1
abbrev x_js (A : ST) : Nat → Int := A.2.2.2.2.2.2.2.2.2.2.2.2.2.2.2.2.2.1
abbrev x_pn (A : ST) : Option Nat := A.2.2.2.2.2.2.2.2.2.2.2.2.2.2.2.2.2.2.1
abbrev x_od (A : ST) : Nat := A.2.2.2.2.2.2.2.2.2.2.2.2.2.2.2.2.2.2.2.1
abbrev x_pr (A : ST) : Bool := A.2.2.2.2.2.2.2.2.2.2.2.2.2.2.2.2.2.2.2.2
def x_s_ny (A : ST) (z : Nat) : ST := (z, x_nt A, x_nc A, x_mu A, x_nj A, x_fa A, x_bu A, x_pl A, x_di A, x_th A, x_yr A, x_co A, x_wo A, x_jt A, x_sv A, x_ja A, x_jb A, x_js A, x_pn A, x_od A, x_pr A)
def x_s_nt (A : ST) (z : Nat) : ST := (x_ny A, z, x_nc A, x_mu A, x_nj A, x_fa A, x_bu A, x_pl A, x_di A, x_th A, x_yr A, x_co A, x_wo A, x_jt A, x_sv A, x_ja A, x_jb A, x_js A, x_pn A, x_od A, x_pr A)
def x_s_nc (A : ST) (z : Nat) : ST := (x_ny A, x_nt A, z, x_mu A, x_nj A, x_fa A, x_bu A, x_pl A, x_di A, x_th A, x_yr A, x_co A, x_wo A, x_jt A, x_sv A, x_ja A, x_jb A, x_js A, x_pn A, x_od A, x_pr A)
def x_s_mu (A : ST) (z : Nat) : ST := (x_ny A, x_nt A, x_nc A, z, x_nj A, x_fa A, x_bu A, x_pl A, x_di A, x_th A, x_yr A, x_co A, x_wo A, x_jt A, x_sv A, x_ja A, x_jb A, x_js A, x_pn A, x_od A, x_pr A)
def x_s_nj (A : ST) (z : Nat) : ST := (x_ny A, x_nt A, x_nc A, x_mu A, z, x_fa A, x_bu A, x_pl A, x_di A, x_th A, x_yr A, x_co A, x_wo A, x_jt A, x_sv A, x_ja A, x_jb A, x_js A, x_pn A, x_od A, x_pr A)
def x_s_fa (A : ST) (z : Int) : ST := (x_ny A, x_nt A, x_nc A, x_mu A, x_nj A, z, x_bu A, x_pl A, x_di A, x_th A, x_yr A, x_co A, x_wo A, x_jt A, x_sv A, x_ja A, x_jb A, x_js A, x_pn A, x_od A, x_pr A)
def x_s_bu (A : ST) (z : Nat → Int) : ST := (x_ny A, x_nt A, x_nc A, x_mu A, x_nj A, x_fa A, z, x_pl A, x_di A, x_th A, x_yr A, x_co A, x_wo A, x_jt A, x_sv A, x_ja A, x_jb A, x_js A, x_pn A, x_od A, x_pr A)
def x_s_pl (A : ST) (z : Nat → Nat) : ST := (x_ny A, x_nt A, x_nc A, x_mu A, x_nj A, x_fa A, x_bu A, z, x_di A, x_th A, x_yr A, x_co A, x_wo A, x_jt A, x_sv A, x_ja A, x_jb A, x_js A, x_pn A, x_od A, x_pr A)
def x_s_di (A : ST) (z : Nat → Nat) : ST := (x_ny A, x_nt A, x_nc A, x_mu A, x_nj A, x_fa A, x_bu A, x_pl A, z, x_th A, x_yr A, x_co A, x_wo A, x_jt A, x_sv A, x_ja A, x_jb A, x_js A, x_pn A, x_od A, x_pr A)
def x_s_th (A : ST) (z : Nat → Nat) : ST := (x_ny A, x_nt A, x_nc A, x_mu A, x_nj A, x_fa A, x_bu A, x_pl A, x_di A, z, x_yr A, x_co A, x_wo A, x_jt A, x_sv A, x_ja A, x_jb A, x_js A, x_pn A, x_od A, x_pr A)
def x_s_yr (A : ST) (z : Nat → Nat) : ST := (x_ny A, x_nt A, x_nc A, x_mu A, x_nj A, x_fa A, x_bu A, x_pl A, x_di A, x_th A, z, x_co A, x_wo A, x_jt A, x_sv A, x_ja A, x_jb A, x_js A, x_pn A, x_od A, x_pr A)
def x_s_co (A : ST) (z : Nat → Int) : ST := (x_ny A, x_nt A, x_nc A, x_mu A, x_nj A, x_fa A, x_bu A, x_pl A, x_di A, x_th A, x_yr A, z, x_wo A, x_jt A, x_sv A, x_ja A, x_jb A, x_js A, x_pn A, x_od A, x_pr A)
def x_s_wo (A : ST) (z : Nat → Int) : ST := (x_ny A, x_nt A, x_nc A, x_mu A, x_nj A, x_fa A, x_bu A, x_pl A, x_di A, x_th A, x_yr A, x_co A, z, x_jt A, x_sv A, x_ja A, x_jb A, x_js A, x_pn A, x_od A, x_pr A)
def x_s_jt (A : ST) (z : Nat → Nat) : ST := (x_ny A, x_nt A, x_nc A, x_mu A, x_nj A, x_fa A, x_bu A, x_pl A, x_di A, x_th A, x_yr A, x_co A, x_wo A, z, x_sv A, x_ja A, x_jb A, x_js A, x_pn A, x_od A, x_pr A)
def x_s_sv (A : ST) (z : Nat → Nat → Int) : ST := (x_ny A, x_nt A, x_nc A, x_mu A, x_nj A, x_fa A, x_bu A, x_pl A, x_di A, x_th A, x_yr A, x_co A, x_wo A, x_jt A, z, x_ja A, x_jb A, x_js A, x_pn A, x_od A, x_pr A)
def x_s_ja (A : ST) (z : Nat → Nat) : ST := (x_ny A, x_nt A, x_nc A, x_mu A, x_nj A, x_fa A, x_bu A, x_pl A, x_di A, x_th A, x_yr A, x_co A, x_wo A, x_jt A, x_sv A, z, x_jb A, x_js A, x_pn A, x_od A, x_pr A)
def x_s_jb (A : ST) (z : Nat → Nat) : ST := (x_ny A, x_nt A, x_nc A, x_mu A, x_nj A, x_fa A, x_bu A, x_pl A, x_di A, x_th A, x_yr A, x_co A, x_wo A, x_jt A, x_sv A, x_ja A, z, x_js A, x_pn A, x_od A, x_pr A)
def x_s_js (A : ST) (z : Nat → Int) : ST := (x_ny A, x_nt A, x_nc A, x_mu A, x_nj A, x_fa A, x_bu A, x_pl A, x_di A, x_th A, x_yr A, x_co A, x_wo A, x_jt A, x_sv A, x_ja A, x_jb A, z, x_pn A, x_od A, x_pr A)
def x_s_pn (A : ST) (z : Option Nat) : ST := (x_ny A, x_nt A, x_nc A, x_mu A, x_nj A, x_fa A, x_bu A, x_pl A, x_di A, x_th A, x_yr A, x_co A, x_wo A, x_jt A, x_sv A, x_ja A, x_jb A, x_js A, z, x_od A, x_pr A)
def x_s_od (A : ST) (z : Nat) : ST := (x_ny A, x_nt A, x_nc A, x_mu A, x_nj A, x_fa A, x_bu A, x_pl A, x_di A, x_th A, x_yr A, x_co A, x_wo A, x_jt A, x_sv A, x_ja A, x_jb A, x_js A, x_pn A, z, x_pr A)
def x_s_pr (A : ST) (z : Bool) : ST := (x_ny A, x_nt A, x_nc A, x_mu A, x_nj A, x_fa A, x_bu A, x_pl A, x_di A, x_th A, x_yr A, x_co A, x_wo A, x_jt A, x_sv A, x_ja A, x_jb A, x_js A, x_pn A, x_od A, z)
abbrev QS : Type := Bool × Option Nat × Bool × Nat × Int × Nat × Nat × Nat × Bool × Nat × (Nat → Int) × (Nat → Nat → Int) × (Nat → Int) × Nat × Nat × Nat × Int × (Nat → Int) × (Nat → Int) × Option Nat × Nat × Int × Nat × (Nat → Nat)
abbrev q_bk (q : QS) : Bool := q.1
abbrev q_ba (q : QS) : Option Nat := q.2.1
abbrev q_ck (q : QS) : Bool := q.2.2.1
abbrev q_cl (q : QS) : Nat := q.2.2.2.1
abbrev q_no (q : QS) : Int := q.2.2.2.2.1
abbrev q_mu (q : QS) : Nat := q.2.2.2.2.2.1
abbrev q_od (q : QS) : Nat := q.2.2.2.2.2.2.1
abbrev q_cm (q : QS) : Nat := q.2.2.2.2.2.2.2.1
abbrev q_oe (q : QS) : Bool := q.2.2.2.2.2.2.2.2.1
abbrev q_ud (q : QS) : Nat := q.2.2.2.2.2.2.2.2.2.1
abbrev q_li (q : QS) : Nat → Int := q.2.2.2.2.2.2.2.2.2.2.1
abbrev q_sf (q : QS) : Nat → Nat → Int := q.2.2.2.2.2.2.2.2.2.2.2.1
abbrev q_wf (q : QS) : Nat → Int := q.2.2.2.2.2.2.2.2.2.2.2.2.1
abbrev q_pk (q : QS) : Nat := q.2.2.2.2.2.2.2.2.2.2.2.2.2.1
abbrev q_tk (q : QS) : Nat := q.2.2.2.2.2.2.2.2.2.2.2.2.2.2.1
abbrev q_sy (q : QS) : Nat := q.2.2.2.2.2.2.2.2.2.2.2.2.2.2.2.1
abbrev q_ga (q : QS) : Int := q.2.2.2.2.2.2.2.2.2.2.2.2.2.2.2.2.1
abbrev q_sp (q : QS) : Nat → Int := q.2.2.2.2.2.2.2.2.2.2.2.2.2.2.2.2.2.1
abbrev q_gi (q : QS) : Nat → Int := q.2.2.2.2.2.2.2.2.2.2.2.2.2.2.2.2.2.2.1
abbrev q_be (q : QS) : Option Nat := q.2.2.2.2.2.2.2.2.2.2.2.2.2.2.2.2.2.2.2.1
abbrev q_bc (q : QS) : Nat := q.2.2.2.2.2.2.2.2.2.2.2.2.2.2.2.2.2.2.2.2.1
abbrev q_bw (q : QS) : Int := q.2.2.2.2.2.2.2.2.2.2.2.2.2.2.2.2.2.2.2.2.2.1
abbrev q_bs (q : QS) : Nat := q.2.2.2.2.2.2.2.2.2.2.2.2.2.2.2.2.2.2.2.2.2.2.1
abbrev q_or (q : QS) : Nat → Nat := q.2.2.2.2.2.2.2.2.2.2.2.2.2.2.2.2.2.2.2.2.2.2.2
def q_s_bk (q : QS) (z : Bool) : QS := (z, q_ba q, q_ck q, q_cl q, q_no q, q_mu q, q_od q, q_cm q, q_oe q, q_ud q, q_li q, q_sf q, q_wf q, q_pk q, q_tk q, q_sy q, q_ga q, q_sp q, q_gi q, q_be q, q_bc q, q_bw q, q_bs q, q_or q)
def q_s_ba (q : QS) (z : Option Nat) : QS := (q_bk q, z, q_ck q, q_cl q, q_no q, q_mu q, q_od q, q_cm q, q_oe q, q_ud q, q_li q, q_sf q, q_wf q, q_pk q, q_tk q, q_sy q, q_ga q, q_sp q, q_gi q, q_be q, q_bc q, q_bw q, q_bs q, q_or q)
def q_s_ck (q : QS) (z : Bool) : QS := (q_bk q, q_ba q, z, q_cl q, q_no q, q_mu q, q_od q, q_cm q, q_oe q, q_ud q, q_li q, q_sf q, q_wf q, q_pk q, q_tk q, q_sy q, q_ga q, q_sp q, q_gi q, q_be q, q_bc q, q_bw q, q_bs q, q_or q)
def q_s_cl (q : QS) (z : Nat) : QS := (q_bk q, q_ba q, q_ck q, z, q_no q, q_mu q, q_od q, q_cm q, q_oe q, q_ud q, q_li q, q_sf q, q_wf q, q_pk q, q_tk q, q_sy q, q_ga q, q_sp q, q_gi q, q_be q, q_bc q, q_bw q, q_bs q, q_or q)
def q_s_no (q : QS) (z : Int) : QS := (q_bk q, q_ba q, q_ck q, q_cl q, z, q_mu q, q_od q, q_cm q, q_oe q, q_ud q, q_li q, q_sf q, q_wf q, q_pk q, q_tk q, q_sy q, q_ga q, q_sp q, q_gi q, q_be q, q_bc q, q_bw q, q_bs q, q_or q)
def q_s_mu (q : QS) (z : Nat) : QS := (q_bk q, q_ba q, q_ck q, q_cl q, q_no q, z, q_od q, q_cm q, q_oe q, q_ud q, q_li q, q_sf q, q_wf q, q_pk q, q_tk q, q_sy q, q_ga q, q_sp q, q_gi q, q_be q, q_bc q, q_bw q, q_bs q, q_or q)
def q_s_od (q : QS) (z : Nat) : QS := (q_bk q, q_ba q, q_ck q, q_cl q, q_no q, q_mu q, z, q_cm q, q_oe q, q_ud q, q_li q, q_sf q, q_wf q, q_pk q, q_tk q, q_sy q, q_ga q, q_sp q, q_gi q, q_be q, q_bc q, q_bw q, q_bs q, q_or q)
def q_s_cm (q : QS) (z : Nat) : QS := (q_bk q, q_ba q, q_ck q, q_cl q, q_no q, q_mu q, q_od q, z, q_oe q, q_ud q, q_li q, q_sf q, q_wf q, q_pk q, q_tk q, q_sy q, q_ga q, q_sp q, q_gi q, q_be q, q_bc q, q_bw q, q_bs q, q_or q)
def q_s_oe (q : QS) (z : Bool) : QS := (q_bk q, q_ba q, q_ck q, q_cl q, q_no q, q_mu q, q_od q, q_cm q, z, q_ud q, q_li q, q_sf q, q_wf q, q_pk q, q_tk q, q_sy q, q_ga q, q_sp q, q_gi q, q_be q, q_bc q, q_bw q, q_bs q, q_or q)
def q_s_ud (q : QS) (z : Nat) : QS := (q_bk q, q_ba q, q_ck q, q_cl q, q_no q, q_mu q, q_od q, q_cm q, q_oe q, z, q_li q, q_sf q, q_wf q, q_pk q, q_tk q, q_sy q, q_ga q, q_sp q, q_gi q, q_be q, q_bc q, q_bw q, q_bs q, q_or q)
def q_s_li (q : QS) (z : Nat → Int) : QS := (q_bk q, q_ba q, q_ck q, q_cl q, q_no q, q_mu q, q_od q, q_cm q, q_oe q, q_ud q, z, q_sf q, q_wf q, q_pk q, q_tk q, q_sy q, q_ga q, q_sp q, q_gi q, q_be q, q_bc q, q_bw q, q_bs q, q_or q)
def q_s_sf (q : QS) (z : Nat → Nat → Int) : QS := (q_bk q, q_ba q, q_ck q, q_cl q, q_no q, q_mu q, q_od q, q_cm q, q_oe q, q_ud q, q_li q, z, q_wf q, q_pk q, q_tk q, q_sy q, q_ga q, q_sp q, q_gi q, q_be q, q_bc q, q_bw q, q_bs q, q_or q)
def q_s_wf (q : QS) (z : Nat → Int) : QS := (q_bk q, q_ba q, q_ck q, q_cl q, q_no q, q_mu q, q_od q, q_cm q, q_oe q, q_ud q, q_li q, q_sf q, z, q_pk q, q_tk q, q_sy q, q_ga q, q_sp q, q_gi q, q_be q, q_bc q, q_bw q, q_bs q, q_or q)
def q_s_pk (q : QS) (z : Nat) : QS := (q_bk q, q_ba q, q_ck q, q_cl q, q_no q, q_mu q, q_od q, q_cm q, q_oe q, q_ud q, q_li q, q_sf q, q_wf q, z, q_tk q, q_sy q, q_ga q, q_sp q, q_gi q, q_be q, q_bc q, q_bw q, q_bs q, q_or q)
def q_s_tk (q : QS) (z : Nat) : QS := (q_bk q, q_ba q, q_ck q, q_cl q, q_no q, q_mu q, q_od q, q_cm q, q_oe q, q_ud q, q_li q, q_sf q, q_wf q, q_pk q, z, q_sy q, q_ga q, q_sp q, q_gi q, q_be q, q_bc q, q_bw q, q_bs q, q_or q)
def q_s_sy (q : QS) (z : Nat) : QS := (q_bk q, q_ba q, q_ck q, q_cl q, q_no q, q_mu q, q_od q, q_cm q, q_oe q, q_ud q, q_li q, q_sf q, q_wf q, q_pk q, q_tk q, z, q_ga q, q_sp q, q_gi q, q_be q, q_bc q, q_bw q, q_bs q, q_or q)
def q_s_ga (q : QS) (z : Int) : QS := (q_bk q, q_ba q, q_ck q, q_cl q, q_no q, q_mu q, q_od q, q_cm q, q_oe q, q_ud q, q_li q, q_sf q, q_wf q, q_pk q, q_tk q, q_sy q, z, q_sp q, q_gi q, q_be q, q_bc q, q_bw q, q_bs q, q_or q)
def q_s_sp (q : QS) (z : Nat → Int) : QS := (q_bk q, q_ba q, q_ck q, q_cl q, q_no q, q_mu q, q_od q, q_cm q, q_oe q, q_ud q, q_li q, q_sf q, q_wf q, q_pk q, q_tk q, q_sy q, q_ga q, z, q_gi q, q_be q, q_bc q, q_bw q, q_bs q, q_or q)
def q_s_gi (q : QS) (z : Nat → Int) : QS := (q_bk q, q_ba q, q_ck q, q_cl q, q_no q, q_mu q, q_od q, q_cm q, q_oe q, q_ud q, q_li q, q_sf q, q_wf q, q_pk q, q_tk q, q_sy q, q_ga q, q_sp q, z, q_be q, q_bc q, q_bw q, q_bs q, q_or q)
def q_s_be (q : QS) (z : Option Nat) : QS := (q_bk q, q_ba q, q_ck q, q_cl q, q_no q, q_mu q, q_od q, q_cm q, q_oe q, q_ud q, q_li q, q_sf q, q_wf q, q_pk q, q_tk q, q_sy q, q_ga q, q_sp q, q_gi q, z, q_bc q, q_bw q, q_bs q, q_or q)
def q_s_bc (q : QS) (z : Nat) : QS := (q_bk q, q_ba q, q_ck q, q_cl q, q_no q, q_mu q, q_od q, q_cm q, q_oe q, q_ud q, q_li q, q_sf q, q_wf q, q_pk q, q_tk q, q_sy q, q_ga q, q_sp q, q_gi q, q_be q, z, q_bw q, q_bs q, q_or q)
def q_s_bw (q : QS) (z : Int) : QS := (q_bk q, q_ba q, q_ck q, q_cl q, q_no q, q_mu q, q_od q, q_cm q, q_oe q, q_ud q, q_li q, q_sf q, q_wf q, q_pk q, q_tk q, q_sy q, q_ga q, q_sp q, q_gi q, q_be q, q_bc q, z, q_bs q, q_or q)
def q_s_bs (q : QS) (z : Nat) : QS := (q_bk q, q_ba q, q_ck q, q_cl q, q_no q, q_mu q, q_od q, q_cm q, q_oe q, q_ud q, q_li q, q_sf q, q_wf q, q_pk q, q_tk q, q_sy q, q_ga q, q_sp q, q_gi q, q_be q, q_bc q, q_bw q, z, q_or q)
def q_s_or (q : QS) (z : Nat → Nat) : QS := (q_bk q, q_ba q, q_ck q, q_cl q, q_no q, q_mu q, q_od q, q_cm q, q_oe q, q_ud q, q_li q, q_sf q, q_wf q, q_pk q, q_tk q, q_sy q, q_ga q, q_sp q, q_gi q, q_be q, q_bc q, q_bw q, q_bs q, z)
abbrev TS : Type := (Nat → Int) × (Nat → Nat) × (Nat → Nat)
abbrev t_pa (t : TS) : Nat → Int := t.1
abbrev t_or (t : TS) : Nat → Nat := t.2.1
abbrev t_ra (t : TS) : Nat → Nat := t.2.2
def t_s_pa (t : TS) (z : Nat → Int) : TS := (z, t_or t, t_ra t)
def t_s_or (t : TS) (z : Nat → Nat) : TS := (t_pa t, z, t_ra t)
def t_s_ra (t : TS) (z : Nat → Nat) : TS := (t_pa t, t_or t, z)
abbrev aI (n : Nat) (f : Nat → Nat) : am_C := .inl (0, n, .inl (fun i => nI (f i)))
abbrev aL (n : Nat) (f : Nat → Int) : am_C := .inl (1, n, .inr (.inl (fun i => lZ (f i))))
abbrev aA (n b : Nat) : am_C := .inl (2, n, .inr (.inr (.inr (.inr (fun i => if i < n then some ((b + i) + 1) else none)))))
def cC (A : ST) (q : QS) : List am_C := [
  .inr (4, [.ref 2, .ref 26, .ref 47, .ref 48, .int (pI (x_pn A)), .int (nI (x_od A)), .int (zI (x_pr A)), .int (zI (q_bk q)), .int (pI (q_ba q)), .int (zI (q_ck q)), .int (nI (q_cl q))]),
  .inr (0, [.int (nI (x_ny A)), .ref 3, .int (nI (x_nt A)), .ref 4, .ref 5, .int (nI (x_nc A)), .ref 6, .ref 7, .ref 8, .ref 9, .int (nI (x_mu A)), .int (nI (x_nj A)), .ref 10, .ref 11, .long (lZ (x_fa A))]),
  aL 6 (x_bu A),
  aI 12 (x_pl A),
  aI 12 (x_di A),
  aI 14 (x_th A),
  aI 14 (x_yr A),
  aL 14 (x_co A),
  aL 14 (x_wo A),
  aI 14 (x_jt A),
  aA 14 11,
  aL 14 (x_sv A 0),
  aL 14 (x_sv A 1),
  aL 14 (x_sv A 2),
  aL 14 (x_sv A 3),
  aL 14 (x_sv A 4),
  aL 14 (x_sv A 5),
  aL 14 (x_sv A 6),
  aL 14 (x_sv A 7),
  aL 14 (x_sv A 8),
  aL 14 (x_sv A 9),
  aL 14 (x_sv A 10),
  aL 14 (x_sv A 11),
  aL 14 (x_sv A 12),
  aL 14 (x_sv A 13),
  .inr (1, [.ref 2, .long (lZ (q_no q)), .int (nI (q_mu q)), .int (nI (q_od q)), .int (nI (q_cm q)), .int (zI (q_oe q)), .int (nI (q_ud q)), .ref 27, .ref 28, .ref 44, .int (nI (q_pk q)), .int (nI (q_tk q)), .int (nI (q_sy q)), .long (lZ (q_ga q)), .ref 45, .ref 46, .int (pI (q_be q)), .int (nI (q_bc q)), .long (lZ (q_bw q)), .int (nI (q_bs q))]),
  aL 6 (q_li q),
  aA 15 28,
  aL 6 (q_sf q 0),
  aL 6 (q_sf q 1),
  aL 6 (q_sf q 2),
  aL 6 (q_sf q 3),
  aL 6 (q_sf q 4),
  aL 6 (q_sf q 5),
  aL 6 (q_sf q 6),
  aL 6 (q_sf q 7),
  aL 6 (q_sf q 8),
  aL 6 (q_sf q 9),
  aL 6 (q_sf q 10),
  aL 6 (q_sf q 11),
  aL 6 (q_sf q 12),
  aL 6 (q_sf q 13),
  aL 6 (q_sf q 14),
  aL 15 (q_wf q),
  aL 6 (q_sp q),
  aL 4 (q_gi q),
  .inr (2, [.ref 2]),
  .inr (3, [.ref 2, .ref 49]),
  aI 14 (q_or q)]
def cM (A : ST) (t : TS) : List am_C := [
  .inr (5, [.int (nI (x_ny A)), .int (nI (x_nt A)), .ref 51, .ref 52, .int (nI (x_nc A)), .ref 53, .ref 54, .ref 55, .ref 56, .int (nI (x_mu A)), .ref 57, .int (nI (x_nj A)), .ref 58, .ref 59, .ref 60, .long (lZ (x_fa A)), .int (pI (x_pn A)), .int (nI (x_od A)), .int (zI (x_pr A)), .ref 61, .ref 62, .ref 63, .ref 64]),
  aI 12 (x_pl A),
  aI 12 (x_di A),
  aI 14 (x_th A),
  aI 14 (x_yr A),
  aL 14 (x_co A),
  aL 14 (x_wo A),
  aL 6 (x_bu A),
  aI 20 (x_ja A),
  aI 20 (x_jb A),
  aL 20 (x_js A),
  aL 6 (fun _ => 0),
  aL 4 (t_pa t),
  aI 14 (t_or t),
  aI 12 (t_ra t)]
def hp (A : ST) (q : QS) (D : ST) (t : TS) : List am_C := cC A q ++ cM D t
theorem hp_len (A : ST) (q : QS) (D : ST) (t : TS) : (hp A q D t).length = 64 := rfl
theorem hp_sv (A : ST) (q : QS) (D : ST) (t : TS) : ∀ a, a < 14 → (hp A q D t)[11 + a]? = some (aL 14 (x_sv A a)) := by
  intro a ha
  rcases (show a = 0 ∨ a = 1 ∨ a = 2 ∨ a = 3 ∨ a = 4 ∨ a = 5 ∨ a = 6 ∨ a = 7 ∨ a = 8 ∨ a = 9 ∨ a = 10 ∨ a = 11 ∨ a = 12 ∨ a = 13 by omega) with rfl | rfl | rfl | rfl | rfl | rfl | rfl | rfl | rfl | rfl | rfl | rfl | rfl | rfl <;> rfl
theorem hp_sf (A : ST) (q : QS) (D : ST) (t : TS) : ∀ a, a < 15 → (hp A q D t)[28 + a]? = some (aL 6 (q_sf q a)) := by
  intro a ha
  rcases (show a = 0 ∨ a = 1 ∨ a = 2 ∨ a = 3 ∨ a = 4 ∨ a = 5 ∨ a = 6 ∨ a = 7 ∨ a = 8 ∨ a = 9 ∨ a = 10 ∨ a = 11 ∨ a = 12 ∨ a = 13 ∨ a = 14 by omega) with rfl | rfl | rfl | rfl | rfl | rfl | rfl | rfl | rfl | rfl | rfl | rfl | rfl | rfl | rfl <;> rfl
