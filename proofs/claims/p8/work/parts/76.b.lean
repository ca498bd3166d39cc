theorem zz_76_b : True := trivial
