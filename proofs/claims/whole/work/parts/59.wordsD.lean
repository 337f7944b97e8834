set_option maxRecDepth 20000 in
theorem gY_L_mark : GoodIn wsY_law (va_wsS RL 81 yL_mark wsY_L_mark) := goodIn_of _ (by decide +kernel)
set_option maxRecDepth 20000 in
theorem gY_L_metres : GoodIn wsY_law (va_wsS RL 91 yL_metres wsY_L_metres) := goodIn_of _ (by decide +kernel)
set_option maxRecDepth 20000 in
theorem gY_L_average : GoodIn wsY_law (va_wsS RL 95 yL_average wsY_L_average) := goodIn_of _ (by decide +kernel)
set_option maxRecDepth 20000 in
theorem gY_L_refill : GoodIn wsY_law (va_wsS RL 107 yL_refill wsY_L_refill) := goodIn_of _ (by decide +kernel)
