theorem mw_880 : Cond.arrayClass FieldType.int ∈ lw_tbl := List.mem_of_getElem? (i := 112) (by decide +kernel)
theorem mw_881 : Cond.instanceMethod objectInit ∈ lw_tbl := List.mem_of_getElem? (i := 100) (by decide +kernel)
set_option maxRecDepth 100000 in
theorem mw_882 : Cond.code objectInit ⟨#[0xb1]⟩ 1 none ∈ lw_tbl := List.mem_of_getElem? (i := 101) rfl
theorem mw_883 : Cond.methodLink R_Mem 3 objectInit ∈ lw_tbl := List.mem_of_getElem? (i := 107) (by decide +kernel)
theorem mw_884 : Cond.methodLink R_Reg 1 objectInit ∈ lw_tbl := List.mem_of_getElem? (i := 118) (by decide +kernel)
theorem mw_885 : Cond.fieldLink R_Reg 13 "SmallComputer$Registers" "segments" "[I" ∈ lw_tbl := List.mem_of_getElem? (i := 123) (by decide +kernel)
theorem mw_886 : Cond.methodLink R_Fla 3 objectInit ∈ lw_tbl := List.mem_of_getElem? (i := 143) (by decide +kernel)
theorem mw_887 : Cond.methodLink R_Ctl 1 objectInit ∈ lw_tbl := List.mem_of_getElem? (i := 155) (by decide +kernel)
theorem mw_888 : Cond.methodLink R_Tim 1 objectInit ∈ lw_tbl := List.mem_of_getElem? (i := 178) (by decide +kernel)
theorem mw_889 : Cond.methodLink R_Key 1 objectInit ∈ lw_tbl := List.mem_of_getElem? (i := 207) (by decide +kernel)
theorem mw_890 : Cond.methodLink R_Cha 1 objectInit ∈ lw_tbl := List.mem_of_getElem? (i := 223) (by decide +kernel)
theorem mw_891 : Cond.methodLink R_Por 1 objectInit ∈ lw_tbl := List.mem_of_getElem? (i := 256) (by decide +kernel)
theorem mw_892 : Cond.methodLink R_Dec 1 objectInit ∈ lw_tbl := List.mem_of_getElem? (i := 279) (by decide +kernel)
theorem mw_893 : Cond.methodLink R_Pro 1 objectInit ∈ lw_tbl := List.mem_of_getElem? (i := 273) (by decide +kernel)
theorem mw_894 : Cond.classLink R_Pro 29 R_Dec ∈ lw_tbl := List.mem_of_getElem? (i := 274) (by decide +kernel)
theorem mw_895 : Cond.instantiable R_Dec 12 ∈ lw_tbl := List.mem_of_getElem? (i := 275) (by decide +kernel)
theorem mw_896 : Cond.instanceMethod y_Dec_init ∈ lw_tbl := List.mem_of_getElem? (i := 277) (by decide +kernel)
set_option maxRecDepth 100000 in
theorem mw_897 : Cond.code y_Dec_init b_Dec_init 3 none ∈ lw_tbl := List.mem_of_getElem? (i := 278) rfl
theorem mw_898 : Cond.methodLink R_Pro 31 y_Dec_init ∈ lw_tbl := List.mem_of_getElem? (i := 276) (by decide +kernel)
theorem mw_899 : Cond.methodLink R_SC 1 objectInit ∈ lw_tbl := List.mem_of_getElem? (i := 99) (by decide +kernel)
theorem mw_900 : Cond.classLink R_SC 7 R_Mem ∈ lw_tbl := List.mem_of_getElem? (i := 102) (by decide +kernel)
theorem mw_901 : Cond.instantiable R_Mem 1 ∈ lw_tbl := List.mem_of_getElem? (i := 103) (by decide +kernel)
theorem mw_902 : Cond.instanceMethod y_Mem_init ∈ lw_tbl := List.mem_of_getElem? (i := 105) (by decide +kernel)
set_option maxRecDepth 100000 in
theorem mw_903 : Cond.code y_Mem_init b_Mem_init 1 none ∈ lw_tbl := List.mem_of_getElem? (i := 106) rfl
theorem mw_904 : Cond.classLink R_SC 16 R_Reg ∈ lw_tbl := List.mem_of_getElem? (i := 113) (by decide +kernel)
theorem mw_905 : Cond.instantiable R_Reg 3 ∈ lw_tbl := List.mem_of_getElem? (i := 114) (by decide +kernel)
theorem mw_906 : Cond.instanceMethod y_Reg_init ∈ lw_tbl := List.mem_of_getElem? (i := 116) (by decide +kernel)
set_option maxRecDepth 100000 in
theorem mw_907 : Cond.code y_Reg_init b_Reg_init 1 none ∈ lw_tbl := List.mem_of_getElem? (i := 117) rfl
theorem mw_908 : Cond.classLink R_SC 23 R_Fla ∈ lw_tbl := List.mem_of_getElem? (i := 138) (by decide +kernel)
theorem mw_909 : Cond.instantiable R_Fla 1 ∈ lw_tbl := List.mem_of_getElem? (i := 139) (by decide +kernel)
theorem mw_910 : Cond.instanceMethod y_Fla_init ∈ lw_tbl := List.mem_of_getElem? (i := 141) (by decide +kernel)
set_option maxRecDepth 100000 in
theorem mw_911 : Cond.code y_Fla_init b_Fla_init 1 none ∈ lw_tbl := List.mem_of_getElem? (i := 142) rfl
theorem mw_912 : Cond.classLink R_SC 30 R_Ctl ∈ lw_tbl := List.mem_of_getElem? (i := 150) (by decide +kernel)
theorem mw_913 : Cond.instantiable R_Ctl 4 ∈ lw_tbl := List.mem_of_getElem? (i := 151) (by decide +kernel)
theorem mw_914 : Cond.instanceMethod y_Ctl_init ∈ lw_tbl := List.mem_of_getElem? (i := 153) (by decide +kernel)
set_option maxRecDepth 100000 in
theorem mw_915 : Cond.code y_Ctl_init b_Ctl_init 1 none ∈ lw_tbl := List.mem_of_getElem? (i := 154) rfl
theorem mw_916 : Cond.classLink R_SC 37 R_Tim ∈ lw_tbl := List.mem_of_getElem? (i := 173) (by decide +kernel)
theorem mw_917 : Cond.instantiable R_Tim 7 ∈ lw_tbl := List.mem_of_getElem? (i := 174) (by decide +kernel)
theorem mw_918 : Cond.instanceMethod y_Tim_init ∈ lw_tbl := List.mem_of_getElem? (i := 176) (by decide +kernel)
set_option maxRecDepth 100000 in
theorem mw_919 : Cond.code y_Tim_init b_Tim_init 2 none ∈ lw_tbl := List.mem_of_getElem? (i := 177) rfl
theorem mw_920 : Cond.methodLink R_SC 39 y_Tim_init ∈ lw_tbl := List.mem_of_getElem? (i := 175) (by decide +kernel)
theorem mw_921 : Cond.classLink R_SC 46 R_Key ∈ lw_tbl := List.mem_of_getElem? (i := 202) (by decide +kernel)
theorem mw_922 : Cond.instantiable R_Key 3 ∈ lw_tbl := List.mem_of_getElem? (i := 203) (by decide +kernel)
theorem mw_923 : Cond.instanceMethod y_Key_init ∈ lw_tbl := List.mem_of_getElem? (i := 205) (by decide +kernel)
set_option maxRecDepth 100000 in
theorem mw_924 : Cond.code y_Key_init b_Key_init 2 none ∈ lw_tbl := List.mem_of_getElem? (i := 206) rfl
theorem mw_925 : Cond.methodLink R_SC 48 y_Key_init ∈ lw_tbl := List.mem_of_getElem? (i := 204) (by decide +kernel)
theorem mw_926 : Cond.classLink R_SC 53 R_Cha ∈ lw_tbl := List.mem_of_getElem? (i := 218) (by decide +kernel)
theorem mw_927 : Cond.instantiable R_Cha 8 ∈ lw_tbl := List.mem_of_getElem? (i := 219) (by decide +kernel)
theorem mw_928 : Cond.instanceMethod y_Cha_init ∈ lw_tbl := List.mem_of_getElem? (i := 221) (by decide +kernel)
set_option maxRecDepth 100000 in
theorem mw_929 : Cond.code y_Cha_init b_Cha_init 3 none ∈ lw_tbl := List.mem_of_getElem? (i := 222) rfl
theorem mw_930 : Cond.methodLink R_SC 55 y_Cha_init ∈ lw_tbl := List.mem_of_getElem? (i := 220) (by decide +kernel)
theorem mw_931 : Cond.classLink R_SC 62 R_Pro ∈ lw_tbl := List.mem_of_getElem? (i := 249) (by decide +kernel)
theorem mw_932 : Cond.instantiable R_Pro 9 ∈ lw_tbl := List.mem_of_getElem? (i := 250) (by decide +kernel)
theorem mw_933 : Cond.classLink R_SC 64 R_Por ∈ lw_tbl := List.mem_of_getElem? (i := 251) (by decide +kernel)
theorem mw_934 : Cond.instantiable R_Por 4 ∈ lw_tbl := List.mem_of_getElem? (i := 252) (by decide +kernel)
theorem mw_935 : Cond.instanceMethod y_Por_init ∈ lw_tbl := List.mem_of_getElem? (i := 254) (by decide +kernel)
set_option maxRecDepth 100000 in
theorem mw_936 : Cond.code y_Por_init b_Por_init 5 none ∈ lw_tbl := List.mem_of_getElem? (i := 255) rfl
theorem mw_937 : Cond.methodLink R_SC 66 y_Por_init ∈ lw_tbl := List.mem_of_getElem? (i := 253) (by decide +kernel)
theorem mw_938 : Cond.instanceMethod y_Pro_init ∈ lw_tbl := List.mem_of_getElem? (i := 271) (by decide +kernel)
set_option maxRecDepth 100000 in
theorem mw_939 : Cond.code y_Pro_init b_Pro_init 6 none ∈ lw_tbl := List.mem_of_getElem? (i := 272) rfl
theorem mw_940 : Cond.methodLink R_SC 69 y_Pro_init ∈ lw_tbl := List.mem_of_getElem? (i := 270) (by decide +kernel)
theorem mw_941 : Cond.methodLink R_Mod 1 objectInit ∈ lw_tbl := List.mem_of_getElem? (i := 755) (by decide +kernel)
theorem mw_942 : Cond.classLink R_Law 7 R_SC ∈ lw_tbl := List.mem_of_getElem? (i := 94) (by decide +kernel)
theorem mw_943 : Cond.instantiable R_SC 9 ∈ lw_tbl := List.mem_of_getElem? (i := 95) (by decide +kernel)
theorem mw_944 : Cond.methodLink R_Law 9 y_SC_init ∈ lw_tbl := List.mem_of_getElem? (i := 96) (by decide +kernel)
theorem mw_945 : Cond.instanceMethod y_SC_init ∈ lw_tbl := List.mem_of_getElem? (i := 97) (by decide +kernel)
set_option maxRecDepth 100000 in
theorem mw_946 : Cond.code y_SC_init b_SC_init 1 none ∈ lw_tbl := List.mem_of_getElem? (i := 98) rfl
theorem mw_947 : Cond.classLink R_Law 10 R_Mod ∈ lw_tbl := List.mem_of_getElem? (i := 750) (by decide +kernel)
theorem mw_948 : Cond.instantiable R_Mod 36 ∈ lw_tbl := List.mem_of_getElem? (i := 751) (by decide +kernel)
theorem mw_949 : Cond.methodLink R_Law 12 y_Mod_init ∈ lw_tbl := List.mem_of_getElem? (i := 752) (by decide +kernel)
theorem mw_950 : Cond.instanceMethod y_Mod_init ∈ lw_tbl := List.mem_of_getElem? (i := 753) (by decide +kernel)
set_option maxRecDepth 100000 in
theorem mw_951 : Cond.code y_Mod_init b_Mod_init 1 none ∈ lw_tbl := List.mem_of_getElem? (i := 754) rfl
set_option maxRecDepth 100000 in
theorem XK_in : ∀ w ∈ XK, w ∈ lw_tbl := List.forall_mem_cons.mpr ⟨mw_880, List.forall_mem_cons.mpr ⟨mw_881, List.forall_mem_cons.mpr ⟨mw_882, List.forall_mem_cons.mpr ⟨mw_883, List.forall_mem_cons.mpr ⟨mw_153, List.forall_mem_cons.mpr ⟨mw_884, List.forall_mem_cons.mpr ⟨mw_154, List.forall_mem_cons.mpr ⟨mw_885, List.forall_mem_cons.mpr ⟨mw_886, List.forall_mem_cons.mpr ⟨mw_887, List.forall_mem_cons.mpr ⟨mw_178, List.forall_mem_cons.mpr ⟨mw_888, List.forall_mem_cons.mpr ⟨mw_182, List.forall_mem_cons.mpr ⟨mw_889, List.forall_mem_cons.mpr ⟨mw_196, List.forall_mem_cons.mpr ⟨mw_197, List.forall_mem_cons.mpr ⟨mw_890, List.forall_mem_cons.mpr ⟨mw_200, List.forall_mem_cons.mpr ⟨mw_201, List.forall_mem_cons.mpr ⟨mw_891, List.forall_mem_cons.mpr ⟨mw_211, List.forall_mem_cons.mpr ⟨mw_212, List.forall_mem_cons.mpr ⟨mw_213, List.forall_mem_cons.mpr ⟨mw_214, List.forall_mem_cons.mpr ⟨mw_892, List.forall_mem_cons.mpr ⟨mw_264, List.forall_mem_cons.mpr ⟨mw_265, List.forall_mem_cons.mpr ⟨mw_893, List.forall_mem_cons.mpr ⟨mw_314, List.forall_mem_cons.mpr ⟨mw_315, List.forall_mem_cons.mpr ⟨mw_316, List.forall_mem_cons.mpr ⟨mw_317, List.forall_mem_cons.mpr ⟨mw_318, List.forall_mem_cons.mpr ⟨mw_894, List.forall_mem_cons.mpr ⟨mw_895, List.forall_mem_cons.mpr ⟨mw_282, List.forall_mem_cons.mpr ⟨mw_896, List.forall_mem_cons.mpr ⟨mw_897, List.forall_mem_cons.mpr ⟨mw_898, List.forall_mem_cons.mpr ⟨mw_319, List.forall_mem_cons.mpr ⟨mw_899, List.forall_mem_cons.mpr ⟨mw_900, List.forall_mem_cons.mpr ⟨mw_901, List.forall_mem_cons.mpr ⟨mw_119, List.forall_mem_cons.mpr ⟨mw_902, List.forall_mem_cons.mpr ⟨mw_903, List.forall_mem_cons.mpr ⟨mw_97, List.forall_mem_cons.mpr ⟨mw_904, List.forall_mem_cons.mpr ⟨mw_905, List.forall_mem_cons.mpr ⟨mw_303, List.forall_mem_cons.mpr ⟨mw_906, List.forall_mem_cons.mpr ⟨mw_907, List.forall_mem_cons.mpr ⟨mw_98, List.forall_mem_cons.mpr ⟨mw_908, List.forall_mem_cons.mpr ⟨mw_909, List.forall_mem_cons.mpr ⟨mw_162, List.forall_mem_cons.mpr ⟨mw_910, List.forall_mem_cons.mpr ⟨mw_911, List.forall_mem_cons.mpr ⟨mw_99, List.forall_mem_cons.mpr ⟨mw_912, List.forall_mem_cons.mpr ⟨mw_913, List.forall_mem_cons.mpr ⟨mw_192, List.forall_mem_cons.mpr ⟨mw_914, List.forall_mem_cons.mpr ⟨mw_915, List.forall_mem_cons.mpr ⟨mw_100, List.forall_mem_cons.mpr ⟨mw_916, List.forall_mem_cons.mpr ⟨mw_917, List.forall_mem_cons.mpr ⟨mw_128, List.forall_mem_cons.mpr ⟨mw_918, List.forall_mem_cons.mpr ⟨mw_919, List.forall_mem_cons.mpr ⟨mw_920, List.forall_mem_cons.mpr ⟨mw_101, List.forall_mem_cons.mpr ⟨mw_921, List.forall_mem_cons.mpr ⟨mw_922, List.forall_mem_cons.mpr ⟨mw_138, List.forall_mem_cons.mpr ⟨mw_923, List.forall_mem_cons.mpr ⟨mw_924, List.forall_mem_cons.mpr ⟨mw_925, List.forall_mem_cons.mpr ⟨mw_102, List.forall_mem_cons.mpr ⟨mw_926, List.forall_mem_cons.mpr ⟨mw_927, List.forall_mem_cons.mpr ⟨mw_143, List.forall_mem_cons.mpr ⟨mw_928, List.forall_mem_cons.mpr ⟨mw_929, List.forall_mem_cons.mpr ⟨mw_930, List.forall_mem_cons.mpr ⟨mw_103, List.forall_mem_cons.mpr ⟨mw_931, List.forall_mem_cons.mpr ⟨mw_932, List.forall_mem_cons.mpr ⟨mw_133, List.forall_mem_cons.mpr ⟨mw_933, List.forall_mem_cons.mpr ⟨mw_934, List.forall_mem_cons.mpr ⟨mw_483, List.forall_mem_cons.mpr ⟨mw_935, List.forall_mem_cons.mpr ⟨mw_936, List.forall_mem_cons.mpr ⟨mw_937, List.forall_mem_cons.mpr ⟨mw_938, List.forall_mem_cons.mpr ⟨mw_939, List.forall_mem_cons.mpr ⟨mw_940, List.forall_mem_cons.mpr ⟨mw_104, List.forall_mem_cons.mpr ⟨mw_105, List.forall_mem_cons.mpr ⟨mw_106, List.forall_mem_cons.mpr ⟨mw_107, List.forall_mem_cons.mpr ⟨mw_941, List.forall_mem_cons.mpr ⟨mw_509, List.forall_mem_cons.mpr ⟨mw_510, List.forall_mem_cons.mpr ⟨mw_511, List.forall_mem_cons.mpr ⟨mw_512, List.forall_mem_cons.mpr ⟨mw_513, List.forall_mem_cons.mpr ⟨mw_514, List.forall_mem_cons.mpr ⟨mw_515, List.forall_mem_cons.mpr ⟨mw_942, List.forall_mem_cons.mpr ⟨mw_943, List.forall_mem_cons.mpr ⟨mw_150, List.forall_mem_cons.mpr ⟨mw_944, List.forall_mem_cons.mpr ⟨mw_945, List.forall_mem_cons.mpr ⟨mw_946, List.forall_mem_cons.mpr ⟨mw_947, List.forall_mem_cons.mpr ⟨mw_948, List.forall_mem_cons.mpr ⟨mw_548, List.forall_mem_cons.mpr ⟨mw_949, List.forall_mem_cons.mpr ⟨mw_950, List.forall_mem_cons.mpr ⟨mw_951, fun _ h => absurd h List.not_mem_nil⟩⟩⟩⟩⟩⟩⟩⟩⟩⟩⟩⟩⟩⟩⟩⟩⟩⟩⟩⟩⟩⟩⟩⟩⟩⟩⟩⟩⟩⟩⟩⟩⟩⟩⟩⟩⟩⟩⟩⟩⟩⟩⟩⟩⟩⟩⟩⟩⟩⟩⟩⟩⟩⟩⟩⟩⟩⟩⟩⟩⟩⟩⟩⟩⟩⟩⟩⟩⟩⟩⟩⟩⟩⟩⟩⟩⟩⟩⟩⟩⟩⟩⟩⟩⟩⟩⟩⟩⟩⟩⟩⟩⟩⟩⟩⟩⟩⟩⟩⟩⟩⟩⟩⟩⟩⟩⟩⟩⟩⟩⟩⟩⟩⟩⟩⟩⟩⟩⟩⟩⟩⟩
theorem WK_in {w : Cond} (h : w ∈ WK) : w ∈ lw_tbl := (List.mem_append.mp h).elim WS_in (XK_in w)
