set_option maxRecDepth 20000 in
theorem ggX3_get_X3_has : GoodIn wsX3_get wsX3_has := goodIn_r _ [6, 7, 8, 9] (by decide +kernel) (by decide +kernel)
set_option maxRecDepth 20000 in
theorem gX3_get_X3_has : GoodIn wsX3_get (wsV RX3 19 RX3 yX3_has wsX3_has) := goodIn_app (goodIn_of _ (by decide +kernel)) ggX3_get_X3_has
set_option maxRecDepth 20000 in
theorem ggX3_put_J7_copyOf_59c91 : GoodIn wsX3_put wsJ7_copyOf_59c91 := goodIn_r _ [7, 8, 9, 10, 11, 12, 13, 14, 15, 16, 17, 18, 19, 20, 21, 22] (by decide +kernel) (by decide +kernel)
set_option maxRecDepth 20000 in
theorem gX3_put_J7_copyOf_59c91 : GoodIn wsX3_put (va_wsS RX3 24 yJ7_copyOf_59c91 wsJ7_copyOf_59c91) := goodIn_app (goodIn_of _ (by decide +kernel)) ggX3_put_J7_copyOf_59c91
set_option maxRecDepth 20000 in
theorem ggX3_isLike_X3_get : GoodIn wsX3_isLike wsX3_get := goodIn_r _ [7, 2, 8, 9, 10, 6, 11, 1, 12, 13] (by decide +kernel) (by decide +kernel)
set_option maxRecDepth 20000 in
theorem gX3_isLike_X3_get : GoodIn wsX3_isLike (wsV RX3 30 RX3 yX3_get wsX3_get) := goodIn_app (goodIn_of _ (by decide +kernel)) ggX3_isLike_X3_get
