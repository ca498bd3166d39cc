theorem zz_31_flour : True := trivial
