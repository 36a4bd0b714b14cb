set_option maxRecDepth 20000 in
theorem gT_isShip : GoodIn wsT (wsV RX8 143 RX8 yX8_isShip wsX8_isShip) := goodIn_app (goodIn_of _ (by decide +kernel)) (goodIn_r _ [13, 3, 4, 14, 15, 16, 17, 18, 19, 20, 21, 12, 22, 50, 51, 52, 53, 54, 55, 56, 57, 58, 59, 60, 61, 70, 71, 72] (by decide +kernel) (by decide +kernel))
