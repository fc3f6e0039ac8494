set_option maxRecDepth 20000 in
theorem ggX0_init_X4_init : GoodIn wsX0_init wsX4_init := goodIn_r _ [21, 22, 2, 3, 11, 23, 4, 24, 36, 37] (by decide +kernel) (by decide +kernel)
set_option maxRecDepth 20000 in
theorem gX0_init_X4_init_n39 : GoodIn wsX0_init (wsX4_init) := ggX0_init_X4_init
